/-! the class's methods come to an end, within the box (wip/safe/mks.py) -/
set_option maxRecDepth 100000 in
theorem k_1298_c4 {X : List Int32} {d N : Nat} {M0 : zM}  (hN : N ≤ 600) (hB0 : zB N M0) : ZV X (d + 10) 1298 [.ref 2, .int 4] M0 (zRI N [(2, 3, 0), (2, 3, 1), (20, 21, 1), (41, 42, 1), (21, 22, 1000), (42, 43, 1000), (2, 3, 7)] M0 (0) (1) (fun _ _ => True)) := by
  have hJ0 : zJ N [(2, 3, 0), (2, 3, 1), (20, 21, 1), (41, 42, 1), (21, 22, 1000), (42, 43, 1000), (2, 3, 7)] M0 M0 := zJ_refl hB0
  refine ZV.of (ini := false) rfl (Nat.le_of_ble_eq_true rfl) (by decide +kernel) ?_
  have main : ∀ n : Nat,
      (∀ (M : zM) (v73_2 : Int32) (o73_3 : Option Value), zJ N [(2, 3, 0), (2, 3, 1), (20, 21, 1), (41, 42, 1), (21, 22, 1000), (42, 43, 1000), (2, 3, 7)] M0 M → ((-1 : Int) ≤ v73_2.toInt) → (v73_2.toInt ≤ 26) → 3 < (n : Int) → ZW X (d + 9) 5 false (some .boolean) cX5_readPart (zRI N [(2, 3, 0), (2, 3, 1), (20, 21, 1), (41, 42, 1), (21, 22, 1000), (42, 43, 1000), (2, 3, 7)] M0 (0) (1) (fun _ _ => True)) (73, [some (.ref 2), some (.int 4), some (.int v73_2), o73_3], [], M)) ∧
      (∀ (M : zM) (v85_2 : Int32) (o85_3 : Option Value), zJ N [(2, 3, 0), (2, 3, 1), (20, 21, 1), (41, 42, 1), (21, 22, 1000), (42, 43, 1000), (2, 3, 7)] M0 M → ((25 : Int) ≤ v85_2.toInt) → (v85_2.toInt ≤ 26) → 2 < (n : Int) → ZW X (d + 9) 5 false (some .boolean) cX5_readPart (zRI N [(2, 3, 0), (2, 3, 1), (20, 21, 1), (41, 42, 1), (21, 22, 1000), (42, 43, 1000), (2, 3, 7)] M0 (0) (1) (fun _ _ => True)) (85, [some (.ref 2), some (.int 4), some (.int v85_2), o85_3], [], M)) ∧
      (∀ (M : zM) (v99_2 : Int32) (v99_3 : Int32), zJ N [(2, 3, 0), (2, 3, 1), (20, 21, 1), (41, 42, 1), (21, 22, 1000), (42, 43, 1000), (2, 3, 7)] M0 M → ((-1 : Int) ≤ v99_2.toInt) → (v99_2.toInt ≤ 26) → ((0 : Int) ≤ v99_3.toInt) → (v99_3.toInt ≤ 1) → 1 < (n : Int) → ZW X (d + 9) 5 false (some .boolean) cX5_readPart (zRI N [(2, 3, 0), (2, 3, 1), (20, 21, 1), (41, 42, 1), (21, 22, 1000), (42, 43, 1000), (2, 3, 7)] M0 (0) (1) (fun _ _ => True)) (99, [some (.ref 2), some (.int 4), some (.int v99_2), some (.int v99_3)], [], M)) := by
    intro n
    induction n with
    | zero =>
      exact ⟨(fun M v73_2 o73_3 hJ v73_20 v73_21 hn => absurd hn (by omega)), (fun M v85_2 o85_3 hJ v85_20 v85_21 hn => absurd hn (by omega)), (fun M v99_2 v99_3 hJ v99_20 v99_21 v99_30 v99_31 hn => absurd hn (by omega))⟩
    | succ n ih =>
      obtain ⟨ih73, ih85, ih99⟩ := ih
      refine ⟨?_, ?_, ?_⟩
      · intro M v73_2 o73_3 hJ v73_20 v73_21 hn
        refine w_lo dX5_readPart_73 rfl rfl rfl rfl ?_
        refine w_bi dX5_readPart_74 (c := 25) (by decide) ?_
        rcases Int.decEq v73_2.toInt (25 : Int) with h1 | h1
        · skip
          refine w_ceq_f dX5_readPart_76 (t := 85) rfl (by have := zt_25; omega) ?_
          refine w_lo dX5_readPart_79 rfl rfl rfl rfl ?_
          refine w_bi dX5_readPart_80 (c := 26) (by decide) ?_
          rcases Int.decEq v73_2.toInt (26 : Int) with h2 | h2
          · skip
            refine w_cne_t dX5_readPart_82 (t := 89) rfl (by have := zt_26; omega) ?_
            refine w_ic dX5_readPart_89 zi_0 ?_
            refine w_lo (ml' := [some (.ref 2), some (.int 4), some (.int v73_2), some (.int 0)]) dX5_readPart_90 rfl rfl rfl rfl ?_
            refine w_lo dX5_readPart_91 rfl rfl rfl rfl ?_
            refine w_ieq_t dX5_readPart_92 (t := 99) rfl (by have := zt_0; omega) ?_
            exact ih99 M v73_2 0 hJ (by omega) (by omega) (by have := zt_0; omega) (by have := zt_0; omega) (by have := zt_4; have := zt_0; omega)
          · skip
            refine w_cne_f dX5_readPart_82 (t := 89) rfl (by have := zt_26; omega) ?_
            exact ih85 M v73_2 o73_3 hJ (by omega) (by omega) (by have := zt_4; omega)
        · skip
          refine w_ceq_t dX5_readPart_76 (t := 85) rfl (by have := zt_25; omega) ?_
          exact ih85 M v73_2 o73_3 hJ (by omega) (by omega) (by have := zt_4; omega)
      · intro M v85_2 o85_3 hJ v85_20 v85_21 hn
        refine w_ic dX5_readPart_85 zi_1 ?_
        refine w_gt dX5_readPart_86 (t := 90) rfl ?_
        refine w_lo (ml' := [some (.ref 2), some (.int 4), some (.int v85_2), some (.int 1)]) dX5_readPart_90 rfl rfl rfl rfl ?_
        refine w_lo dX5_readPart_91 rfl rfl rfl rfl ?_
        refine w_ieq_f dX5_readPart_92 (t := 99) rfl (by have := zt_1; omega) ?_
        refine w_lo dX5_readPart_95 rfl rfl rfl rfl ?_
        refine w_iv dX5_readPart_96 rfl rfl (As := []) rfl rfl hJ.1.1 zs_2 (Nat.le_of_ble_eq_true rfl) ?_
        refine ZV.imp (k_1289 hN hJ.1) ?_
        rintro _ ⟨M3, rfl, hJ4, hq5⟩
        have hJ6 := zJ_trans hJ hJ4 (zSub_cons (fun _ _ h h' hk => zIR_s (zIR_s (zIR_s (zIR_s (zIR_s (zIR_s (zIR_e (by omega) (by omega) hk))))))) zSub_nil)
        show ZW _ _ _ _ _ _ _ (99, [some (.ref 2), some (.int 4), some (.int v85_2), some (.int 1)], [], M3)
        exact ih99 M3 v85_2 1 hJ6 (by omega) (by omega) (by have := zt_1; omega) (by have := zt_1; omega) (by have := zt_4; have := zt_1; omega)
      · intro M v99_2 v99_3 hJ v99_20 v99_21 v99_30 v99_31 hn
        refine w_lo dX5_readPart_99 rfl rfl rfl rfl ?_
        refine w_bi dX5_readPart_100 (c := 40) (by decide) ?_
        refine w_iv dX5_readPart_102 rfl rfl (As := [.int 40]) rfl rfl hJ.1.1 zs_2 (Nat.le_of_ble_eq_true rfl) ?_
        refine ZV.imp (k_1299 40 (by have := zt_40; omega) (by have := zt_40; omega) hN hJ.1) ?_
        rintro _ ⟨x10, M7, rfl, h11, h12, hJ8, hq9⟩
        have hJ13 := zJ_trans hJ hJ8 zSub_nil
        show ZW _ _ _ _ _ _ _ (105, [some (.ref 2), some (.int 4), some (.int v99_2), some (.int v99_3)], [.int x10], M7)
        rcases Int.decEq x10.toInt (0 : Int) with h14 | h14
        · skip
          refine w_ine_t dX5_readPart_105 (t := 114) rfl (by omega) ?_
          refine w_lo dX5_readPart_114 rfl rfl rfl rfl ?_
          refine w_bi dX5_readPart_115 (c := 8) (by decide) ?_
          refine w_clt_t dX5_readPart_117 (t := 126) rfl (by have := zt_4; have := zt_8; omega) ?_
          refine w_lo dX5_readPart_126 rfl rfl rfl rfl ?_
          refine w_iv dX5_readPart_127 rfl rfl (As := []) rfl rfl hJ13.1.1 zs_2 (Nat.le_of_ble_eq_true rfl) ?_
          refine ZV.imp (k_1289 hN hJ13.1) ?_
          rintro _ ⟨M15, rfl, hJ16, hq17⟩
          have hJ18 := zJ_trans hJ13 hJ16 (zSub_cons (fun _ _ h h' hk => zIR_s (zIR_s (zIR_s (zIR_s (zIR_s (zIR_s (zIR_e (by omega) (by omega) hk))))))) zSub_nil)
          show ZW _ _ _ _ _ _ _ (130, [some (.ref 2), some (.int 4), some (.int v99_2), some (.int v99_3)], [], M15)
          refine w_lo dX5_readPart_130 rfl rfl rfl rfl ?_
          refine w_lo dX5_readPart_131 rfl rfl rfl rfl ?_
          refine w_ic dX5_readPart_132 zi_1 ?_
          refine w_pu (st' := [.int 5, .ref 2]) dX5_readPart_133 rfl rfl ?_
          refine w_iv dX5_readPart_134 rfl rfl (As := [.int 5]) rfl rfl hJ18.1.1 zs_2 (Nat.le_of_ble_eq_true rfl) ?_
          refine ZV.imp (k_1297_c5 hN hJ18.1) ?_
          rintro _ ⟨x22, M19, rfl, h23, h24, hJ20, hq21⟩
          have hJ25 := zJ_trans hJ18 hJ20 (zSub_cons (fun _ _ h h' hk => zIR_e (by omega) (by omega) hk) (zSub_cons (fun _ _ h h' hk => zIR_s (zIR_e (by omega) (by omega) hk)) (zSub_cons (fun _ _ h h' hk => zIR_s (zIR_s (zIR_e (by omega) (by omega) hk))) (zSub_cons (fun _ _ h h' hk => zIR_s (zIR_s (zIR_s (zIR_e (by omega) (by omega) hk)))) (zSub_cons (fun _ _ h h' hk => zIR_s (zIR_s (zIR_s (zIR_s (zIR_a (by omega) (by omega)))))) (zSub_cons (fun _ _ h h' hk => zIR_s (zIR_s (zIR_s (zIR_s (zIR_s (zIR_a (by omega) (by omega))))))) (zSub_cons (fun _ _ h h' hk => zIR_s (zIR_s (zIR_s (zIR_s (zIR_s (zIR_s (zIR_e (by omega) (by omega) hk))))))) zSub_nil)))))))
          show ZW _ _ _ _ _ _ _ (137, [some (.ref 2), some (.int 4), some (.int v99_2), some (.int v99_3)], [.int x22], M19)
          rcases Int.decEq x22.toInt (0 : Int) with h26 | h26
          · skip
            refine w_ine_t dX5_readPart_137 (t := 142) rfl (by omega) ?_
            refine w_lo dX5_readPart_142 rfl rfl rfl rfl ?_
            rcases Int.decEq v99_3.toInt (0 : Int) with h27 | h27
            · skip
              refine w_ieq_f dX5_readPart_143 (t := 200) rfl (by omega) ?_
              refine w_lo dX5_readPart_146 rfl rfl rfl rfl ?_
              refine w_bi dX5_readPart_147 (c := 44) (by decide) ?_
              refine w_iv dX5_readPart_149 rfl rfl (As := [.int 44]) rfl rfl hJ25.1.1 zs_2 (Nat.le_of_ble_eq_true rfl) ?_
              refine ZV.imp (k_1299 44 (by have := zt_44; omega) (by have := zt_44; omega) hN hJ25.1) ?_
              rintro _ ⟨x31, M28, rfl, h32, h33, hJ29, hq30⟩
              have hJ34 := zJ_trans hJ25 hJ29 zSub_nil
              show ZW _ _ _ _ _ _ _ (152, [some (.ref 2), some (.int 4), some (.int v99_2), some (.int v99_3)], [.int x31], M28)
              rcases Int.decEq x31.toInt (0 : Int) with h35 | h35
              · skip
                refine w_ine_t dX5_readPart_152 (t := 161) rfl (by omega) ?_
                refine w_lo dX5_readPart_161 rfl rfl rfl rfl ?_
                refine w_iv dX5_readPart_162 rfl rfl (As := []) rfl rfl hJ34.1.1 zs_2 (Nat.le_of_ble_eq_true rfl) ?_
                refine ZV.imp (k_1289 hN hJ34.1) ?_
                rintro _ ⟨M36, rfl, hJ37, hq38⟩
                have hJ39 := zJ_trans hJ34 hJ37 (zSub_cons (fun _ _ h h' hk => zIR_s (zIR_s (zIR_s (zIR_s (zIR_s (zIR_s (zIR_e (by omega) (by omega) hk))))))) zSub_nil)
                show ZW _ _ _ _ _ _ _ (165, [some (.ref 2), some (.int 4), some (.int v99_2), some (.int v99_3)], [], M36)
                refine w_lo dX5_readPart_165 rfl rfl rfl rfl ?_
                refine w_lo dX5_readPart_166 rfl rfl rfl rfl ?_
                refine w_ic dX5_readPart_167 zi_1 ?_
                refine w_pu (st' := [.int 5, .ref 2]) dX5_readPart_168 rfl rfl ?_
                refine w_iv dX5_readPart_169 rfl rfl (As := [.int 5]) rfl rfl hJ39.1.1 zs_2 (Nat.le_of_ble_eq_true rfl) ?_
                refine ZV.imp (k_1297_c5 hN hJ39.1) ?_
                rintro _ ⟨x43, M40, rfl, h44, h45, hJ41, hq42⟩
                have hJ46 := zJ_trans hJ39 hJ41 (zSub_cons (fun _ _ h h' hk => zIR_e (by omega) (by omega) hk) (zSub_cons (fun _ _ h h' hk => zIR_s (zIR_e (by omega) (by omega) hk)) (zSub_cons (fun _ _ h h' hk => zIR_s (zIR_s (zIR_e (by omega) (by omega) hk))) (zSub_cons (fun _ _ h h' hk => zIR_s (zIR_s (zIR_s (zIR_e (by omega) (by omega) hk)))) (zSub_cons (fun _ _ h h' hk => zIR_s (zIR_s (zIR_s (zIR_s (zIR_a (by omega) (by omega)))))) (zSub_cons (fun _ _ h h' hk => zIR_s (zIR_s (zIR_s (zIR_s (zIR_s (zIR_a (by omega) (by omega))))))) (zSub_cons (fun _ _ h h' hk => zIR_s (zIR_s (zIR_s (zIR_s (zIR_s (zIR_s (zIR_e (by omega) (by omega) hk))))))) zSub_nil)))))))
                show ZW _ _ _ _ _ _ _ (172, [some (.ref 2), some (.int 4), some (.int v99_2), some (.int v99_3)], [.int x43], M40)
                rcases Int.decEq x43.toInt (0 : Int) with h47 | h47
                · skip
                  refine w_ine_t dX5_readPart_172 (t := 177) rfl (by omega) ?_
                  refine w_lo dX5_readPart_177 rfl rfl rfl rfl ?_
                  obtain ⟨b48, f49, h50⟩ := zd_2_8 hJ46.1
                  have h51 := zDm_b h50
                  refine w_gf dX5_readPart_178 rfl hJ46.1.1 zs_2 f49 ?_
                  refine w_gf dX5_readPart_181 rfl hJ46.1.1 (zs_1_0 h50) (zr_1_0_15 h50 hJ46.1) ?_
                  refine w_lo dX5_readPart_184 rfl rfl rfl rfl ?_
                  refine w_bi dX5_readPart_185 (c := 25) (by decide) ?_
                  rcases Int.decEq v99_2.toInt (25 : Int) with h52 | h52
                  · skip
                    refine w_cne_t dX5_readPart_187 (t := 195) rfl (by have := zt_25; omega) ?_
                    refine w_bi dX5_readPart_195 (c := (-20)) (by decide) ?_
                    refine w_iv dX5_readPart_197 rfl rfl (As := [.int (-20)]) rfl rfl hJ46.1.1 (zs_1_13 h50) (Nat.le_of_ble_eq_true rfl) ?_
                    refine ZV.imp (k_515 (b48 + 13) (zLw_of h50) (-20) hN hJ46.1) ?_
                    rintro _ ⟨M53, rfl, hJ54, hq55⟩
                    have hJ56 := zJ_trans hJ46 hJ54 (zSub_cons (fun _ _ h h' hk => ((zDm_or h50).elim (fun e => zIR_s (zIR_s (zIR_e (by omega) (by omega) hk))) (fun e => zIR_s (zIR_s (zIR_s (zIR_e (by omega) (by omega) hk)))))) (zSub_cons (fun _ _ h h' hk => ((zDm_or h50).elim (fun e => zIR_s (zIR_s (zIR_s (zIR_s (zIR_a (by omega) (by omega)))))) (fun e => zIR_s (zIR_s (zIR_s (zIR_s (zIR_s (zIR_a (by omega) (by omega))))))))) zSub_nil))
                    show ZW _ _ _ _ _ _ _ (200, [some (.ref 2), some (.int 4), some (.int v99_2), some (.int v99_3)], [], M53)
                    refine w_lo dX5_readPart_200 rfl rfl rfl rfl ?_
                    refine w_bi dX5_readPart_201 (c := 41) (by decide) ?_
                    refine w_iv dX5_readPart_203 rfl rfl (As := [.int 41]) rfl rfl hJ56.1.1 zs_2 (Nat.le_of_ble_eq_true rfl) ?_
                    refine ZV.imp (k_1299 41 (by have := zt_41; omega) (by have := zt_41; omega) hN hJ56.1) ?_
                    rintro _ ⟨x60, M57, rfl, h61, h62, hJ58, hq59⟩
                    have hJ63 := zJ_trans hJ56 hJ58 zSub_nil
                    show ZW _ _ _ _ _ _ _ (206, [some (.ref 2), some (.int 4), some (.int v99_2), some (.int v99_3)], [.int x60], M57)
                    rcases Int.decEq x60.toInt (0 : Int) with h64 | h64
                    · skip
                      refine w_ine_t dX5_readPart_206 (t := 215) rfl (by omega) ?_
                      refine w_lo dX5_readPart_215 rfl rfl rfl rfl ?_
                      refine w_iv dX5_readPart_216 rfl rfl (As := []) rfl rfl hJ63.1.1 zs_2 (Nat.le_of_ble_eq_true rfl) ?_
                      refine ZV.imp (k_1289 hN hJ63.1) ?_
                      rintro _ ⟨M65, rfl, hJ66, hq67⟩
                      have hJ68 := zJ_trans hJ63 hJ66 (zSub_cons (fun _ _ h h' hk => zIR_s (zIR_s (zIR_s (zIR_s (zIR_s (zIR_s (zIR_e (by omega) (by omega) hk))))))) zSub_nil)
                      show ZW _ _ _ _ _ _ _ (219, [some (.ref 2), some (.int 4), some (.int v99_2), some (.int v99_3)], [], M65)
                      refine w_ic dX5_readPart_219 zi_1 ?_
                      refine w_en dX5_readPart_220 rfl ?_
                      exact ⟨_, _, rfl, (by have := zt_1; omega), (by have := zt_1; omega), hJ68, trivial⟩
                    · skip
                      refine w_ine_f dX5_readPart_206 (t := 215) rfl (by omega) ?_
                      refine w_lo dX5_readPart_209 rfl rfl rfl rfl ?_
                      refine w_ic dX5_readPart_210 zi_1 ?_
                      refine w_iv dX5_readPart_211 rfl rfl (As := [.int 1]) rfl rfl hJ63.1.1 zs_2 (Nat.le_of_ble_eq_true rfl) ?_
                      refine ZV.imp (k_1286 1 (by have := zt_1; omega) (by have := zt_1; omega) hN hJ63.1) ?_
                      rintro _ ⟨x72, M69, rfl, h73, h74, hJ70, hq71⟩
                      have hJ75 := zJ_trans hJ63 hJ70 (zSub_cons (fun _ _ h h' hk => zIR_e (by omega) (by omega) hk) (zSub_cons (fun _ _ h h' hk => zIR_s (zIR_e (by omega) (by omega) hk)) zSub_nil))
                      show ZW _ _ _ _ _ _ _ (214, [some (.ref 2), some (.int 4), some (.int v99_2), some (.int v99_3)], [.int x72], M69)
                      refine w_eni dX5_readPart_214 rfl (znb (by omega) (by omega)) ?_
                      exact ⟨_, _, rfl, (by omega), (by omega), hJ75, trivial⟩
                  · skip
                    refine w_cne_f dX5_readPart_187 (t := 195) rfl (by have := zt_25; omega) ?_
                    refine w_bi dX5_readPart_190 (c := (-19)) (by decide) ?_
                    refine w_gt dX5_readPart_192 (t := 197) rfl ?_
                    refine w_iv dX5_readPart_197 rfl rfl (As := [.int (-19)]) rfl rfl hJ46.1.1 (zs_1_13 h50) (Nat.le_of_ble_eq_true rfl) ?_
                    refine ZV.imp (k_515 (b48 + 13) (zLw_of h50) (-19) hN hJ46.1) ?_
                    rintro _ ⟨M76, rfl, hJ77, hq78⟩
                    have hJ79 := zJ_trans hJ46 hJ77 (zSub_cons (fun _ _ h h' hk => ((zDm_or h50).elim (fun e => zIR_s (zIR_s (zIR_e (by omega) (by omega) hk))) (fun e => zIR_s (zIR_s (zIR_s (zIR_e (by omega) (by omega) hk)))))) (zSub_cons (fun _ _ h h' hk => ((zDm_or h50).elim (fun e => zIR_s (zIR_s (zIR_s (zIR_s (zIR_a (by omega) (by omega)))))) (fun e => zIR_s (zIR_s (zIR_s (zIR_s (zIR_s (zIR_a (by omega) (by omega))))))))) zSub_nil))
                    show ZW _ _ _ _ _ _ _ (200, [some (.ref 2), some (.int 4), some (.int v99_2), some (.int v99_3)], [], M76)
                    refine w_lo dX5_readPart_200 rfl rfl rfl rfl ?_
                    refine w_bi dX5_readPart_201 (c := 41) (by decide) ?_
                    refine w_iv dX5_readPart_203 rfl rfl (As := [.int 41]) rfl rfl hJ79.1.1 zs_2 (Nat.le_of_ble_eq_true rfl) ?_
                    refine ZV.imp (k_1299 41 (by have := zt_41; omega) (by have := zt_41; omega) hN hJ79.1) ?_
                    rintro _ ⟨x83, M80, rfl, h84, h85, hJ81, hq82⟩
                    have hJ86 := zJ_trans hJ79 hJ81 zSub_nil
                    show ZW _ _ _ _ _ _ _ (206, [some (.ref 2), some (.int 4), some (.int v99_2), some (.int v99_3)], [.int x83], M80)
                    rcases Int.decEq x83.toInt (0 : Int) with h87 | h87
                    · skip
                      refine w_ine_t dX5_readPart_206 (t := 215) rfl (by omega) ?_
                      refine w_lo dX5_readPart_215 rfl rfl rfl rfl ?_
                      refine w_iv dX5_readPart_216 rfl rfl (As := []) rfl rfl hJ86.1.1 zs_2 (Nat.le_of_ble_eq_true rfl) ?_
                      refine ZV.imp (k_1289 hN hJ86.1) ?_
                      rintro _ ⟨M88, rfl, hJ89, hq90⟩
                      have hJ91 := zJ_trans hJ86 hJ89 (zSub_cons (fun _ _ h h' hk => zIR_s (zIR_s (zIR_s (zIR_s (zIR_s (zIR_s (zIR_e (by omega) (by omega) hk))))))) zSub_nil)
                      show ZW _ _ _ _ _ _ _ (219, [some (.ref 2), some (.int 4), some (.int v99_2), some (.int v99_3)], [], M88)
                      refine w_ic dX5_readPart_219 zi_1 ?_
                      refine w_en dX5_readPart_220 rfl ?_
                      exact ⟨_, _, rfl, (by have := zt_1; omega), (by have := zt_1; omega), hJ91, trivial⟩
                    · skip
                      refine w_ine_f dX5_readPart_206 (t := 215) rfl (by omega) ?_
                      refine w_lo dX5_readPart_209 rfl rfl rfl rfl ?_
                      refine w_ic dX5_readPart_210 zi_1 ?_
                      refine w_iv dX5_readPart_211 rfl rfl (As := [.int 1]) rfl rfl hJ86.1.1 zs_2 (Nat.le_of_ble_eq_true rfl) ?_
                      refine ZV.imp (k_1286 1 (by have := zt_1; omega) (by have := zt_1; omega) hN hJ86.1) ?_
                      rintro _ ⟨x95, M92, rfl, h96, h97, hJ93, hq94⟩
                      have hJ98 := zJ_trans hJ86 hJ93 (zSub_cons (fun _ _ h h' hk => zIR_e (by omega) (by omega) hk) (zSub_cons (fun _ _ h h' hk => zIR_s (zIR_e (by omega) (by omega) hk)) zSub_nil))
                      show ZW _ _ _ _ _ _ _ (214, [some (.ref 2), some (.int 4), some (.int v99_2), some (.int v99_3)], [.int x95], M92)
                      refine w_eni dX5_readPart_214 rfl (znb (by omega) (by omega)) ?_
                      exact ⟨_, _, rfl, (by omega), (by omega), hJ98, trivial⟩
                · skip
                  refine w_ine_f dX5_readPart_172 (t := 177) rfl (by omega) ?_
                  refine w_ic dX5_readPart_175 zi_0 ?_
                  refine w_en dX5_readPart_176 rfl ?_
                  exact ⟨_, _, rfl, (by have := zt_0; omega), (by have := zt_0; omega), hJ46, trivial⟩
              · skip
                refine w_ine_f dX5_readPart_152 (t := 161) rfl (by omega) ?_
                refine w_lo dX5_readPart_155 rfl rfl rfl rfl ?_
                refine w_ic dX5_readPart_156 zi_1 ?_
                refine w_iv dX5_readPart_157 rfl rfl (As := [.int 1]) rfl rfl hJ34.1.1 zs_2 (Nat.le_of_ble_eq_true rfl) ?_
                refine ZV.imp (k_1286 1 (by have := zt_1; omega) (by have := zt_1; omega) hN hJ34.1) ?_
                rintro _ ⟨x102, M99, rfl, h103, h104, hJ100, hq101⟩
                have hJ105 := zJ_trans hJ34 hJ100 (zSub_cons (fun _ _ h h' hk => zIR_e (by omega) (by omega) hk) (zSub_cons (fun _ _ h h' hk => zIR_s (zIR_e (by omega) (by omega) hk)) zSub_nil))
                show ZW _ _ _ _ _ _ _ (160, [some (.ref 2), some (.int 4), some (.int v99_2), some (.int v99_3)], [.int x102], M99)
                refine w_eni dX5_readPart_160 rfl (znb (by omega) (by omega)) ?_
                exact ⟨_, _, rfl, (by omega), (by omega), hJ105, trivial⟩
            · skip
              refine w_ieq_t dX5_readPart_143 (t := 200) rfl (by omega) ?_
              refine w_lo dX5_readPart_200 rfl rfl rfl rfl ?_
              refine w_bi dX5_readPart_201 (c := 41) (by decide) ?_
              refine w_iv dX5_readPart_203 rfl rfl (As := [.int 41]) rfl rfl hJ25.1.1 zs_2 (Nat.le_of_ble_eq_true rfl) ?_
              refine ZV.imp (k_1299 41 (by have := zt_41; omega) (by have := zt_41; omega) hN hJ25.1) ?_
              rintro _ ⟨x109, M106, rfl, h110, h111, hJ107, hq108⟩
              have hJ112 := zJ_trans hJ25 hJ107 zSub_nil
              show ZW _ _ _ _ _ _ _ (206, [some (.ref 2), some (.int 4), some (.int v99_2), some (.int v99_3)], [.int x109], M106)
              rcases Int.decEq x109.toInt (0 : Int) with h113 | h113
              · skip
                refine w_ine_t dX5_readPart_206 (t := 215) rfl (by omega) ?_
                refine w_lo dX5_readPart_215 rfl rfl rfl rfl ?_
                refine w_iv dX5_readPart_216 rfl rfl (As := []) rfl rfl hJ112.1.1 zs_2 (Nat.le_of_ble_eq_true rfl) ?_
                refine ZV.imp (k_1289 hN hJ112.1) ?_
                rintro _ ⟨M114, rfl, hJ115, hq116⟩
                have hJ117 := zJ_trans hJ112 hJ115 (zSub_cons (fun _ _ h h' hk => zIR_s (zIR_s (zIR_s (zIR_s (zIR_s (zIR_s (zIR_e (by omega) (by omega) hk))))))) zSub_nil)
                show ZW _ _ _ _ _ _ _ (219, [some (.ref 2), some (.int 4), some (.int v99_2), some (.int v99_3)], [], M114)
                refine w_ic dX5_readPart_219 zi_1 ?_
                refine w_en dX5_readPart_220 rfl ?_
                exact ⟨_, _, rfl, (by have := zt_1; omega), (by have := zt_1; omega), hJ117, trivial⟩
              · skip
                refine w_ine_f dX5_readPart_206 (t := 215) rfl (by omega) ?_
                refine w_lo dX5_readPart_209 rfl rfl rfl rfl ?_
                refine w_ic dX5_readPart_210 zi_1 ?_
                refine w_iv dX5_readPart_211 rfl rfl (As := [.int 1]) rfl rfl hJ112.1.1 zs_2 (Nat.le_of_ble_eq_true rfl) ?_
                refine ZV.imp (k_1286 1 (by have := zt_1; omega) (by have := zt_1; omega) hN hJ112.1) ?_
                rintro _ ⟨x121, M118, rfl, h122, h123, hJ119, hq120⟩
                have hJ124 := zJ_trans hJ112 hJ119 (zSub_cons (fun _ _ h h' hk => zIR_e (by omega) (by omega) hk) (zSub_cons (fun _ _ h h' hk => zIR_s (zIR_e (by omega) (by omega) hk)) zSub_nil))
                show ZW _ _ _ _ _ _ _ (214, [some (.ref 2), some (.int 4), some (.int v99_2), some (.int v99_3)], [.int x121], M118)
                refine w_eni dX5_readPart_214 rfl (znb (by omega) (by omega)) ?_
                exact ⟨_, _, rfl, (by omega), (by omega), hJ124, trivial⟩
          · skip
            refine w_ine_f dX5_readPart_137 (t := 142) rfl (by omega) ?_
            refine w_ic dX5_readPart_140 zi_0 ?_
            refine w_en dX5_readPart_141 rfl ?_
            exact ⟨_, _, rfl, (by have := zt_0; omega), (by have := zt_0; omega), hJ25, trivial⟩
        · skip
          refine w_ine_f dX5_readPart_105 (t := 114) rfl (by omega) ?_
          refine w_lo dX5_readPart_108 rfl rfl rfl rfl ?_
          refine w_ic dX5_readPart_109 zi_1 ?_
          refine w_iv dX5_readPart_110 rfl rfl (As := [.int 1]) rfl rfl hJ13.1.1 zs_2 (Nat.le_of_ble_eq_true rfl) ?_
          refine ZV.imp (k_1286 1 (by have := zt_1; omega) (by have := zt_1; omega) hN hJ13.1) ?_
          rintro _ ⟨x128, M125, rfl, h129, h130, hJ126, hq127⟩
          have hJ131 := zJ_trans hJ13 hJ126 (zSub_cons (fun _ _ h h' hk => zIR_e (by omega) (by omega) hk) (zSub_cons (fun _ _ h h' hk => zIR_s (zIR_e (by omega) (by omega) hk)) zSub_nil))
          show ZW _ _ _ _ _ _ _ (113, [some (.ref 2), some (.int 4), some (.int v99_2), some (.int v99_3)], [.int x128], M125)
          refine w_eni dX5_readPart_113 rfl (znb (by omega) (by omega)) ?_
          exact ⟨_, _, rfl, (by omega), (by omega), hJ131, trivial⟩
  obtain ⟨ih73, ih85, ih99⟩ := main 8
  show ZW _ _ _ _ _ _ _ (0, [some (.ref 2), some (.int 4), none, none], [], M0)
  refine w_lo dX5_readPart_0 rfl rfl rfl rfl ?_
  refine w_gf dX5_readPart_1 rfl hJ0.1.1 zs_2 (zr_2_3 hJ0.1) ?_
  refine w_lo dX5_readPart_4 rfl rfl rfl rfl ?_
  refine w_gfi dX5_readPart_5 rfl hJ0.1 zs_2 (Nat.le_of_ble_eq_true rfl) zo_2_7 ?_
  intro x132 f133 h134 h135
  refine w_iai dX5_readPart_8 hJ0.1 zs_4 (by omega) (by omega) zu_4 ?_
  intro x139 f136 h137 h138
  refine w_ic dX5_readPart_9 zi_4 ?_
  rcases Int.decEq x139.toInt (4 : Int) with h140 | h140
  · skip
    refine w_cne_t dX5_readPart_10 (t := 38) rfl (by have := zt_4; omega) ?_
    refine w_lo dX5_readPart_38 rfl rfl rfl rfl ?_
    refine w_iv dX5_readPart_39 rfl rfl (As := []) rfl rfl hJ0.1.1 zs_2 (Nat.le_of_ble_eq_true rfl) ?_
    refine ZV.imp (k_1287 hN hJ0.1) ?_
    rintro _ ⟨x144, M141, rfl, h145, h146, hJ142, hq143⟩
    have hJ147 := zJ_trans hJ0 hJ142 zSub_nil
    show ZW _ _ _ _ _ _ _ (42, [some (.ref 2), some (.int 4), none, none], [.int x144], M141)
    refine w_lo (ml' := [some (.ref 2), some (.int 4), some (.int x144), none]) dX5_readPart_42 rfl rfl rfl rfl ?_
    refine w_lo dX5_readPart_43 rfl rfl rfl rfl ?_
    refine w_ic dX5_readPart_44 zi_m1 ?_
    rcases Int.decEq x144.toInt (-1 : Int) with h148 | h148
    · skip
      refine w_ceq_f dX5_readPart_45 (t := 73) rfl (by have := zt_m1; omega) ?_
      refine w_lo dX5_readPart_48 rfl rfl rfl rfl ?_
      refine w_bi dX5_readPart_49 (c := 7) (by decide) ?_
      rcases zcut x144.toInt (7 : Int) with h149 | h149
      · skip
        refine w_cge_f dX5_readPart_51 (t := 73) rfl (by have := zt_7; omega) ?_
        refine w_lo dX5_readPart_54 rfl rfl rfl rfl ?_
        obtain ⟨b150, f151, h152⟩ := zd_2_8 hJ147.1
        have h153 := zDm_b h152
        refine w_gf dX5_readPart_55 rfl hJ147.1.1 zs_2 f151 ?_
        refine w_gf dX5_readPart_58 rfl hJ147.1.1 (zs_1_0 h152) (zr_1_0_15 h152 hJ147.1) ?_
        refine w_ic dX5_readPart_61 zi_m1 ?_
        refine w_lo dX5_readPart_62 rfl rfl rfl rfl ?_
        refine w_sub dX5_readPart_63 (by have := zt_m1; omega) ?_
        intro x154 h155
        have := zt_m1
        refine w_iv dX5_readPart_64 rfl rfl (As := [.int x154]) rfl rfl hJ147.1.1 (zs_1_13 h152) (Nat.le_of_ble_eq_true rfl) ?_
        refine ZV.imp (k_515 (b150 + 13) (zLw_of h152) x154 hN hJ147.1) ?_
        rintro _ ⟨M156, rfl, hJ157, hq158⟩
        have hJ159 := zJ_trans hJ147 hJ157 (zSub_cons (fun _ _ h h' hk => ((zDm_or h152).elim (fun e => zIR_s (zIR_s (zIR_e (by omega) (by omega) hk))) (fun e => zIR_s (zIR_s (zIR_s (zIR_e (by omega) (by omega) hk)))))) (zSub_cons (fun _ _ h h' hk => ((zDm_or h152).elim (fun e => zIR_s (zIR_s (zIR_s (zIR_s (zIR_a (by omega) (by omega)))))) (fun e => zIR_s (zIR_s (zIR_s (zIR_s (zIR_s (zIR_a (by omega) (by omega))))))))) zSub_nil))
        show ZW _ _ _ _ _ _ _ (67, [some (.ref 2), some (.int 4), some (.int x144), none], [], M156)
        refine w_lo dX5_readPart_67 rfl rfl rfl rfl ?_
        refine w_iv dX5_readPart_68 rfl rfl (As := []) rfl rfl hJ159.1.1 zs_2 (Nat.le_of_ble_eq_true rfl) ?_
        refine ZV.imp (k_1289 hN hJ159.1) ?_
        rintro _ ⟨M160, rfl, hJ161, hq162⟩
        have hJ163 := zJ_trans hJ159 hJ161 (zSub_cons (fun _ _ h h' hk => zIR_s (zIR_s (zIR_s (zIR_s (zIR_s (zIR_s (zIR_e (by omega) (by omega) hk))))))) zSub_nil)
        show ZW _ _ _ _ _ _ _ (71, [some (.ref 2), some (.int 4), some (.int x144), none], [], M160)
        refine w_ic dX5_readPart_71 zi_1 ?_
        refine w_en dX5_readPart_72 rfl ?_
        exact ⟨_, _, rfl, (by have := zt_1; omega), (by have := zt_1; omega), hJ163, trivial⟩
      · skip
        refine w_cge_t dX5_readPart_51 (t := 73) rfl (by have := zt_7; omega) ?_
        exact ih73 M141 x144 none hJ147 (by omega) (by omega) (by have := zt_4; omega)
    · skip
      refine w_ceq_t dX5_readPart_45 (t := 73) rfl (by have := zt_m1; omega) ?_
      exact ih73 M141 x144 none hJ147 (by omega) (by omega) (by have := zt_4; omega)
  · skip
    refine w_cne_f dX5_readPart_10 (t := 38) rfl (by have := zt_4; omega) ?_
    refine w_lo dX5_readPart_13 rfl rfl rfl rfl ?_
    obtain ⟨b164, f165, h166⟩ := zd_2_8 hJ0.1
    have h167 := zDm_b h166
    refine w_gf dX5_readPart_14 rfl hJ0.1.1 zs_2 f165 ?_
    refine w_gf dX5_readPart_17 rfl hJ0.1.1 (zs_1_0 h166) (zr_1_0_15 h166 hJ0.1) ?_
    refine w_lo dX5_readPart_20 rfl rfl rfl rfl ?_
    refine w_gf dX5_readPart_21 rfl hJ0.1.1 zs_2 (zr_2_4 hJ0.1) ?_
    refine w_lo dX5_readPart_24 rfl rfl rfl rfl ?_
    refine w_gf dX5_readPart_25 rfl hJ0.1.1 zs_2 f133 ?_
    refine w_iai dX5_readPart_28 hJ0.1 zs_5 (by omega) (by omega) zu_5 ?_
    intro x171 f168 h169 h170
    refine w_iv dX5_readPart_29 rfl rfl (As := [.int x171]) rfl rfl hJ0.1.1 (zs_1_13 h166) (Nat.le_of_ble_eq_true rfl) ?_
    refine ZV.imp (k_515 (b164 + 13) (zLw_of h166) x171 hN hJ0.1) ?_
    rintro _ ⟨M172, rfl, hJ173, hq174⟩
    have hJ175 := zJ_trans hJ0 hJ173 (zSub_cons (fun _ _ h h' hk => ((zDm_or h166).elim (fun e => zIR_s (zIR_s (zIR_e (by omega) (by omega) hk))) (fun e => zIR_s (zIR_s (zIR_s (zIR_e (by omega) (by omega) hk)))))) (zSub_cons (fun _ _ h h' hk => ((zDm_or h166).elim (fun e => zIR_s (zIR_s (zIR_s (zIR_s (zIR_a (by omega) (by omega)))))) (fun e => zIR_s (zIR_s (zIR_s (zIR_s (zIR_s (zIR_a (by omega) (by omega))))))))) zSub_nil))
    show ZW _ _ _ _ _ _ _ (32, [some (.ref 2), some (.int 4), none, none], [], M172)
    refine w_lo dX5_readPart_32 rfl rfl rfl rfl ?_
    refine w_iv dX5_readPart_33 rfl rfl (As := []) rfl rfl hJ175.1.1 zs_2 (Nat.le_of_ble_eq_true rfl) ?_
    refine ZV.imp (k_1289 hN hJ175.1) ?_
    rintro _ ⟨M176, rfl, hJ177, hq178⟩
    have hJ179 := zJ_trans hJ175 hJ177 (zSub_cons (fun _ _ h h' hk => zIR_s (zIR_s (zIR_s (zIR_s (zIR_s (zIR_s (zIR_e (by omega) (by omega) hk))))))) zSub_nil)
    show ZW _ _ _ _ _ _ _ (36, [some (.ref 2), some (.int 4), none, none], [], M176)
    refine w_ic dX5_readPart_36 zi_1 ?_
    refine w_en dX5_readPart_37 rfl ?_
    exact ⟨_, _, rfl, (by have := zt_1; omega), (by have := zt_1; omega), hJ179, trivial⟩
set_option maxRecDepth 100000 in
theorem k_1297_c4 {X : List Int32} {d N : Nat} {M0 : zM}  (hN : N ≤ 600) (hB0 : zB N M0) : ZV X (d + 11) 1297 [.ref 2, .int 4] M0 (zRI N [(2, 3, 0), (2, 3, 1), (20, 21, 1), (41, 42, 1), (21, 22, 1000), (42, 43, 1000), (2, 3, 7)] M0 (0) (1) (fun _ _ => True)) := by
  have hJ0 : zJ N [(2, 3, 0), (2, 3, 1), (20, 21, 1), (41, 42, 1), (21, 22, 1000), (42, 43, 1000), (2, 3, 7)] M0 M0 := zJ_refl hB0
  refine ZV.of (ini := false) rfl (Nat.le_of_ble_eq_true rfl) (by decide +kernel) ?_
  have main : ∀ n : Nat,
      (∀ (M : zM) (v4_2 : Int32) (v4_3 : Int32) (o4_4 : Option Value) (o4_5 : Option Value), zJ N [(2, 3, 0), (2, 3, 1), (20, 21, 1), (41, 42, 1), (21, 22, 1000), (42, 43, 1000), (2, 3, 7)] M0 M → ((-13 : Int) ≤ v4_2.toInt) → (v4_2.toInt ≤ 0) → ((0 : Int) ≤ v4_3.toInt) → (v4_3.toInt ≤ 1601) → 12832 * (1601 - v4_3.toInt) + 12830 < (n : Int) → ZW X (d + 10) 5 false (some .boolean) cX5_readSum (zRI N [(2, 3, 0), (2, 3, 1), (20, 21, 1), (41, 42, 1), (21, 22, 1000), (42, 43, 1000), (2, 3, 7)] M0 (0) (1) (fun _ _ => True)) (4, [some (.ref 2), some (.int 4), some (.int v4_2), some (.int v4_3), o4_4, o4_5], [], M)) ∧
      (∀ (M : zM) (v17_2 : Int32) (v17_3 : Int32) (v17_4 : Int32) (v17_5 : Int32), zJ N [(2, 3, 0), (2, 3, 1), (20, 21, 1), (41, 42, 1), (21, 22, 1000), (42, 43, 1000), (2, 3, 7)] M0 M → ((-2147483648 : Int) ≤ v17_2.toInt) → (v17_2.toInt ≤ 0) → ((0 : Int) ≤ v17_3.toInt) → (v17_3.toInt ≤ 1600) → ((-11 : Int) ≤ v17_4.toInt) → (v17_4.toInt ≤ 0) → ((0 : Int) ≤ v17_5.toInt) → (v17_5.toInt ≤ 1601) → 12832 * (1601 - v17_3.toInt) + 8 * (1601 - v17_5.toInt) + 5 < (n : Int) → ZW X (d + 10) 5 false (some .boolean) cX5_readSum (zRI N [(2, 3, 0), (2, 3, 1), (20, 21, 1), (41, 42, 1), (21, 22, 1000), (42, 43, 1000), (2, 3, 7)] M0 (0) (1) (fun _ _ => True)) (17, [some (.ref 2), some (.int 4), some (.int v17_2), some (.int v17_3), some (.int v17_4), some (.int v17_5)], [], M)) ∧
      (∀ (M : zM) (v52_2 : Int32) (v52_3 : Int32) (u52_4 : Int32) (v52_5 : Int32), zJ N [(2, 3, 0), (2, 3, 1), (20, 21, 1), (41, 42, 1), (21, 22, 1000), (42, 43, 1000), (2, 3, 7)] M0 M → ((-2147483648 : Int) ≤ v52_2.toInt) → (v52_2.toInt ≤ 0) → ((0 : Int) ≤ v52_3.toInt) → (v52_3.toInt ≤ 1600) → ((0 : Int) ≤ v52_5.toInt) → (v52_5.toInt ≤ 1600) → 12832 * (1601 - v52_3.toInt) + 8 * (1601 - v52_5.toInt) + 4 < (n : Int) → ZW X (d + 10) 5 false (some .boolean) cX5_readSum (zRI N [(2, 3, 0), (2, 3, 1), (20, 21, 1), (41, 42, 1), (21, 22, 1000), (42, 43, 1000), (2, 3, 7)] M0 (0) (1) (fun _ _ => True)) (52, [some (.ref 2), some (.int 4), some (.int v52_2), some (.int v52_3), some (.int u52_4), some (.int v52_5)], [], M)) ∧
      (∀ (M : zM) (v95_2 : Int32) (v95_3 : Int32) (u95_4 : Int32) (v95_5 : Int32) (s95_0 : Int32), zJ N [(2, 3, 0), (2, 3, 1), (20, 21, 1), (41, 42, 1), (21, 22, 1000), (42, 43, 1000), (2, 3, 7)] M0 M → ((-2147483648 : Int) ≤ v95_2.toInt) → (v95_2.toInt ≤ 0) → ((0 : Int) ≤ v95_3.toInt) → (v95_3.toInt ≤ 1600) → ((0 : Int) ≤ v95_5.toInt) → (v95_5.toInt ≤ 1600) → ((-11 : Int) ≤ s95_0.toInt) → (s95_0.toInt ≤ 0) → 12832 * (1601 - v95_3.toInt) + 8 * (1601 - v95_5.toInt) + 3 < (n : Int) → ZW X (d + 10) 5 false (some .boolean) cX5_readSum (zRI N [(2, 3, 0), (2, 3, 1), (20, 21, 1), (41, 42, 1), (21, 22, 1000), (42, 43, 1000), (2, 3, 7)] M0 (0) (1) (fun _ _ => True)) (95, [some (.ref 2), some (.int 4), some (.int v95_2), some (.int v95_3), some (.int u95_4), some (.int v95_5)], [.int s95_0], M)) ∧
      (∀ (M : zM) (v115_2 : Int32) (v115_3 : Int32) (u115_4 : Int32) (u115_5 : Int32), zJ N [(2, 3, 0), (2, 3, 1), (20, 21, 1), (41, 42, 1), (21, 22, 1000), (42, 43, 1000), (2, 3, 7)] M0 M → ((-2147483648 : Int) ≤ v115_2.toInt) → (v115_2.toInt ≤ 0) → ((0 : Int) ≤ v115_3.toInt) → (v115_3.toInt ≤ 1600) → 12832 * (1601 - v115_3.toInt) + 2 < (n : Int) → ZW X (d + 10) 5 false (some .boolean) cX5_readSum (zRI N [(2, 3, 0), (2, 3, 1), (20, 21, 1), (41, 42, 1), (21, 22, 1000), (42, 43, 1000), (2, 3, 7)] M0 (0) (1) (fun _ _ => True)) (115, [some (.ref 2), some (.int 4), some (.int v115_2), some (.int v115_3), some (.int u115_4), some (.int u115_5)], [], M)) ∧
      (∀ (M : zM) (u130_2 : Int32) (v130_3 : Int32) (u130_4 : Int32) (u130_5 : Int32), zJ N [(2, 3, 0), (2, 3, 1), (20, 21, 1), (41, 42, 1), (21, 22, 1000), (42, 43, 1000), (2, 3, 7)] M0 M → ((0 : Int) ≤ v130_3.toInt) → (v130_3.toInt ≤ 1600) → 12832 * (1601 - v130_3.toInt) + 1 < (n : Int) → ZW X (d + 10) 5 false (some .boolean) cX5_readSum (zRI N [(2, 3, 0), (2, 3, 1), (20, 21, 1), (41, 42, 1), (21, 22, 1000), (42, 43, 1000), (2, 3, 7)] M0 (0) (1) (fun _ _ => True)) (130, [some (.ref 2), some (.int 4), some (.int u130_2), some (.int v130_3), some (.int u130_4), some (.int u130_5)], [], M)) := by
    intro n
    induction n with
    | zero =>
      exact ⟨(fun M v4_2 v4_3 o4_4 o4_5 hJ v4_20 v4_21 v4_30 v4_31 hn => absurd hn (by omega)), (fun M v17_2 v17_3 v17_4 v17_5 hJ v17_20 v17_21 v17_30 v17_31 v17_40 v17_41 v17_50 v17_51 hn => absurd hn (by omega)), (fun M v52_2 v52_3 u52_4 v52_5 hJ v52_20 v52_21 v52_30 v52_31 v52_50 v52_51 hn => absurd hn (by omega)), (fun M v95_2 v95_3 u95_4 v95_5 s95_0 hJ v95_20 v95_21 v95_30 v95_31 v95_50 v95_51 s95_00 s95_01 hn => absurd hn (by omega)), (fun M v115_2 v115_3 u115_4 u115_5 hJ v115_20 v115_21 v115_30 v115_31 hn => absurd hn (by omega)), (fun M u130_2 v130_3 u130_4 u130_5 hJ v130_30 v130_31 hn => absurd hn (by omega))⟩
    | succ n ih =>
      obtain ⟨ih4, ih17, ih52, ih95, ih115, ih130⟩ := ih
      refine ⟨?_, ?_, ?_, ?_, ?_, ?_⟩
      · intro M v4_2 v4_3 o4_4 o4_5 hJ v4_20 v4_21 v4_30 v4_31 hn
        refine w_lo dX5_readSum_4 rfl rfl rfl rfl ?_
        refine w_si dX5_readSum_5 (c := 1600) (by decide) ?_
        rcases zcut (1600 : Int) v4_3.toInt with h1 | h1
        · skip
          refine w_cgt_t dX5_readSum_8 (t := 177) rfl (by have := zt_1600; omega) ?_
          refine w_ic dX5_readSum_177 zi_1 ?_
          refine w_en dX5_readSum_178 rfl ?_
          exact ⟨_, _, rfl, (by have := zt_1; omega), (by have := zt_1; omega), hJ, trivial⟩
        · skip
          refine w_cgt_f dX5_readSum_8 (t := 177) rfl (by have := zt_1600; omega) ?_
          refine w_ic dX5_readSum_11 zi_0 ?_
          refine w_lo (ml' := [some (.ref 2), some (.int 4), some (.int v4_2), some (.int v4_3), some (.int 0), o4_5]) dX5_readSum_12 rfl rfl rfl rfl ?_
          refine w_ic dX5_readSum_14 zi_0 ?_
          refine w_lo (ml' := [some (.ref 2), some (.int 4), some (.int v4_2), some (.int v4_3), some (.int 0), some (.int 0)]) dX5_readSum_15 rfl rfl rfl rfl ?_
          exact ih17 M v4_2 v4_3 0 0 hJ (zbot _) (by omega) (by omega) (by omega) (by have := zt_0; omega) (by have := zt_0; omega) (by have := zt_0; omega) (by have := zt_0; omega) (by have := zt_4; have := zt_0; omega)
      · intro M v17_2 v17_3 v17_4 v17_5 hJ v17_20 v17_21 v17_30 v17_31 v17_40 v17_41 v17_50 v17_51 hn
        refine w_lo dX5_readSum_17 rfl rfl rfl rfl ?_
        refine w_si dX5_readSum_19 (c := 1600) (by decide) ?_
        rcases zcut (1600 : Int) v17_5.toInt with h2 | h2
        · skip
          refine w_cgt_t dX5_readSum_22 (t := 115) rfl (by have := zt_1600; omega) ?_
          exact ih115 M v17_2 v17_3 v17_4 v17_5 hJ (zbot _) (by omega) (by omega) (by omega) (by have := zt_4; omega)
        · skip
          refine w_cgt_f dX5_readSum_22 (t := 115) rfl (by have := zt_1600; omega) ?_
          refine w_lo dX5_readSum_25 rfl rfl rfl rfl ?_
          refine w_lo dX5_readSum_26 rfl rfl rfl rfl ?_
          refine w_iv dX5_readSum_27 rfl rfl (As := [.int 4]) rfl rfl hJ.1.1 zs_2 (Nat.le_of_ble_eq_true rfl) ?_
          refine ZV.imp (k_1298_c4 hN hJ.1) ?_
          rintro _ ⟨x6, M3, rfl, h7, h8, hJ4, hq5⟩
          have hJ9 := zJ_trans hJ hJ4 (zSub_cons (fun _ _ h h' hk => zIR_e (by omega) (by omega) hk) (zSub_cons (fun _ _ h h' hk => zIR_s (zIR_e (by omega) (by omega) hk)) (zSub_cons (fun _ _ h h' hk => zIR_s (zIR_s (zIR_e (by omega) (by omega) hk))) (zSub_cons (fun _ _ h h' hk => zIR_s (zIR_s (zIR_s (zIR_e (by omega) (by omega) hk)))) (zSub_cons (fun _ _ h h' hk => zIR_s (zIR_s (zIR_s (zIR_s (zIR_a (by omega) (by omega)))))) (zSub_cons (fun _ _ h h' hk => zIR_s (zIR_s (zIR_s (zIR_s (zIR_s (zIR_a (by omega) (by omega))))))) (zSub_cons (fun _ _ h h' hk => zIR_s (zIR_s (zIR_s (zIR_s (zIR_s (zIR_s (zIR_e (by omega) (by omega) hk))))))) zSub_nil)))))))
          show ZW _ _ _ _ _ _ _ (30, [some (.ref 2), some (.int 4), some (.int v17_2), some (.int v17_3), some (.int v17_4), some (.int v17_5)], [.int x6], M3)
          rcases Int.decEq x6.toInt (0 : Int) with h10 | h10
          · skip
            refine w_ine_t dX5_readSum_30 (t := 35) rfl (by omega) ?_
            refine w_lo dX5_readSum_35 rfl rfl rfl rfl ?_
            rcases Int.decEq v17_4.toInt (0 : Int) with h11 | h11
            · skip
              refine w_ieq_f dX5_readSum_37 (t := 52) rfl (by omega) ?_
              refine w_lo dX5_readSum_40 rfl rfl rfl rfl ?_
              obtain ⟨b12, f13, h14⟩ := zd_2_8 hJ9.1
              have h15 := zDm_b h14
              refine w_gf dX5_readSum_41 rfl hJ9.1.1 zs_2 f13 ?_
              refine w_gf dX5_readSum_44 rfl hJ9.1.1 (zs_1_0 h14) (zr_1_0_15 h14 hJ9.1) ?_
              refine w_lo dX5_readSum_47 rfl rfl rfl rfl ?_
              refine w_iv dX5_readSum_49 rfl rfl (As := [.int v17_4]) rfl rfl hJ9.1.1 (zs_1_13 h14) (Nat.le_of_ble_eq_true rfl) ?_
              refine ZV.imp (k_515 (b12 + 13) (zLw_of h14) v17_4 hN hJ9.1) ?_
              rintro _ ⟨M16, rfl, hJ17, hq18⟩
              have hJ19 := zJ_trans hJ9 hJ17 (zSub_cons (fun _ _ h h' hk => ((zDm_or h14).elim (fun e => zIR_s (zIR_s (zIR_e (by omega) (by omega) hk))) (fun e => zIR_s (zIR_s (zIR_s (zIR_e (by omega) (by omega) hk)))))) (zSub_cons (fun _ _ h h' hk => ((zDm_or h14).elim (fun e => zIR_s (zIR_s (zIR_s (zIR_s (zIR_a (by omega) (by omega)))))) (fun e => zIR_s (zIR_s (zIR_s (zIR_s (zIR_s (zIR_a (by omega) (by omega))))))))) zSub_nil))
              show ZW _ _ _ _ _ _ _ (52, [some (.ref 2), some (.int 4), some (.int v17_2), some (.int v17_3), some (.int v17_4), some (.int v17_5)], [], M16)
              exact ih52 M16 v17_2 v17_3 v17_4 v17_5 hJ19 (zbot _) (by omega) (by omega) (by omega) (by omega) (by omega) (by have := zt_4; omega)
            · skip
              refine w_ieq_t dX5_readSum_37 (t := 52) rfl (by omega) ?_
              exact ih52 M3 v17_2 v17_3 v17_4 v17_5 hJ9 (zbot _) (by omega) (by omega) (by omega) (by omega) (by omega) (by have := zt_4; omega)
          · skip
            refine w_ine_f dX5_readSum_30 (t := 35) rfl (by omega) ?_
            refine w_ic dX5_readSum_33 zi_0 ?_
            refine w_en dX5_readSum_34 rfl ?_
            exact ⟨_, _, rfl, (by have := zt_0; omega), (by have := zt_0; omega), hJ9, trivial⟩
      · intro M v52_2 v52_3 u52_4 v52_5 hJ v52_20 v52_21 v52_30 v52_31 v52_50 v52_51 hn
        refine w_lo dX5_readSum_52 rfl rfl rfl rfl ?_
        refine w_bi dX5_readSum_53 (c := 42) (by decide) ?_
        refine w_iv dX5_readSum_55 rfl rfl (As := [.int 42]) rfl rfl hJ.1.1 zs_2 (Nat.le_of_ble_eq_true rfl) ?_
        refine ZV.imp (k_1299 42 (by have := zt_42; omega) (by have := zt_42; omega) hN hJ.1) ?_
        rintro _ ⟨x23, M20, rfl, h24, h25, hJ21, hq22⟩
        have hJ26 := zJ_trans hJ hJ21 zSub_nil
        show ZW _ _ _ _ _ _ _ (58, [some (.ref 2), some (.int 4), some (.int v52_2), some (.int v52_3), some (.int u52_4), some (.int v52_5)], [.int x23], M20)
        rcases Int.decEq x23.toInt (0 : Int) with h27 | h27
        · skip
          refine w_ieq_f dX5_readSum_58 (t := 66) rfl (by omega) ?_
          refine w_bi dX5_readSum_61 (c := (-9)) (by decide) ?_
          refine w_gt dX5_readSum_63 (t := 95) rfl ?_
          exact ih95 M20 v52_2 v52_3 u52_4 v52_5 (-9) hJ26 (zbot _) (by omega) (by omega) (by omega) (by omega) (by omega) (by have := zt_m9; omega) (by have := zt_m9; omega) (by have := zt_4; have := zt_m9; omega)
        · skip
          refine w_ieq_t dX5_readSum_58 (t := 66) rfl (by omega) ?_
          refine w_lo dX5_readSum_66 rfl rfl rfl rfl ?_
          refine w_bi dX5_readSum_67 (c := 47) (by decide) ?_
          refine w_iv dX5_readSum_69 rfl rfl (As := [.int 47]) rfl rfl hJ26.1.1 zs_2 (Nat.le_of_ble_eq_true rfl) ?_
          refine ZV.imp (k_1299 47 (by have := zt_47; omega) (by have := zt_47; omega) hN hJ26.1) ?_
          rintro _ ⟨x31, M28, rfl, h32, h33, hJ29, hq30⟩
          have hJ34 := zJ_trans hJ26 hJ29 zSub_nil
          show ZW _ _ _ _ _ _ _ (72, [some (.ref 2), some (.int 4), some (.int v52_2), some (.int v52_3), some (.int u52_4), some (.int v52_5)], [.int x31], M28)
          rcases Int.decEq x31.toInt (0 : Int) with h35 | h35
          · skip
            refine w_ieq_f dX5_readSum_72 (t := 80) rfl (by omega) ?_
            refine w_bi dX5_readSum_75 (c := (-10)) (by decide) ?_
            refine w_gt dX5_readSum_77 (t := 95) rfl ?_
            exact ih95 M28 v52_2 v52_3 u52_4 v52_5 (-10) hJ34 (zbot _) (by omega) (by omega) (by omega) (by omega) (by omega) (by have := zt_m10; omega) (by have := zt_m10; omega) (by have := zt_4; have := zt_m10; omega)
          · skip
            refine w_ieq_t dX5_readSum_72 (t := 80) rfl (by omega) ?_
            refine w_lo dX5_readSum_80 rfl rfl rfl rfl ?_
            refine w_bi dX5_readSum_81 (c := 37) (by decide) ?_
            refine w_iv dX5_readSum_83 rfl rfl (As := [.int 37]) rfl rfl hJ34.1.1 zs_2 (Nat.le_of_ble_eq_true rfl) ?_
            refine ZV.imp (k_1299 37 (by have := zt_37; omega) (by have := zt_37; omega) hN hJ34.1) ?_
            rintro _ ⟨x39, M36, rfl, h40, h41, hJ37, hq38⟩
            have hJ42 := zJ_trans hJ34 hJ37 zSub_nil
            show ZW _ _ _ _ _ _ _ (86, [some (.ref 2), some (.int 4), some (.int v52_2), some (.int v52_3), some (.int u52_4), some (.int v52_5)], [.int x39], M36)
            rcases Int.decEq x39.toInt (0 : Int) with h43 | h43
            · skip
              refine w_ieq_f dX5_readSum_86 (t := 94) rfl (by omega) ?_
              refine w_bi dX5_readSum_89 (c := (-11)) (by decide) ?_
              refine w_gt dX5_readSum_91 (t := 95) rfl ?_
              exact ih95 M36 v52_2 v52_3 u52_4 v52_5 (-11) hJ42 (zbot _) (by omega) (by omega) (by omega) (by omega) (by omega) (by have := zt_m11; omega) (by have := zt_m11; omega) (by have := zt_4; have := zt_m11; omega)
            · skip
              refine w_ieq_t dX5_readSum_86 (t := 94) rfl (by omega) ?_
              refine w_ic dX5_readSum_94 zi_0 ?_
              exact ih95 M36 v52_2 v52_3 u52_4 v52_5 0 hJ42 (zbot _) (by omega) (by omega) (by omega) (by omega) (by omega) (by have := zt_0; omega) (by have := zt_0; omega) (by have := zt_4; have := zt_0; omega)
      · intro M v95_2 v95_3 u95_4 v95_5 s95_0 hJ v95_20 v95_21 v95_30 v95_31 v95_50 v95_51 s95_00 s95_01 hn
        refine w_lo (ml' := [some (.ref 2), some (.int 4), some (.int v95_2), some (.int v95_3), some (.int s95_0), some (.int v95_5)]) dX5_readSum_95 rfl rfl rfl rfl ?_
        refine w_lo dX5_readSum_97 rfl rfl rfl rfl ?_
        rcases Int.decEq s95_0.toInt (0 : Int) with h44 | h44
        · skip
          refine w_ine_t dX5_readSum_99 (t := 105) rfl (by omega) ?_
          refine w_lo dX5_readSum_105 rfl rfl rfl rfl ?_
          refine w_iv dX5_readSum_106 rfl rfl (As := []) rfl rfl hJ.1.1 zs_2 (Nat.le_of_ble_eq_true rfl) ?_
          refine ZV.imp (k_1289 hN hJ.1) ?_
          rintro _ ⟨M45, rfl, hJ46, hq47⟩
          have hJ48 := zJ_trans hJ hJ46 (zSub_cons (fun _ _ h h' hk => zIR_s (zIR_s (zIR_s (zIR_s (zIR_s (zIR_s (zIR_e (by omega) (by omega) hk))))))) zSub_nil)
          show ZW _ _ _ _ _ _ _ (109, [some (.ref 2), some (.int 4), some (.int v95_2), some (.int v95_3), some (.int s95_0), some (.int v95_5)], [], M45)
          refine w_inc (kk := 5) dX5_readSum_109 rfl (m := 1) (by decide) (by omega) ?_
          intro x49 h50
          refine ⟨_, rfl, ?_⟩
          show ZW _ _ _ _ _ _ _ (112, [some (.ref 2), some (.int 4), some (.int v95_2), some (.int v95_3), some (.int s95_0), some (.int x49)], [], M45)
          refine w_gt dX5_readSum_112 (t := 17) rfl ?_
          exact ih17 M45 v95_2 v95_3 s95_0 x49 hJ48 (zbot _) (by omega) (by omega) (by omega) (by omega) (by omega) (by omega) (by omega) (by have := zt_4; omega)
        · skip
          refine w_ine_f dX5_readSum_99 (t := 105) rfl (by omega) ?_
          refine w_gt dX5_readSum_102 (t := 115) rfl ?_
          exact ih115 M v95_2 v95_3 s95_0 v95_5 hJ (zbot _) (by omega) (by omega) (by omega) (by have := zt_4; omega)
      · intro M v115_2 v115_3 u115_4 u115_5 hJ v115_20 v115_21 v115_30 v115_31 hn
        refine w_lo dX5_readSum_115 rfl rfl rfl rfl ?_
        rcases Int.decEq v115_2.toInt (0 : Int) with h51 | h51
        · skip
          refine w_ieq_f dX5_readSum_116 (t := 130) rfl (by omega) ?_
          refine w_lo dX5_readSum_119 rfl rfl rfl rfl ?_
          obtain ⟨b52, f53, h54⟩ := zd_2_8 hJ.1
          have h55 := zDm_b h54
          refine w_gf dX5_readSum_120 rfl hJ.1.1 zs_2 f53 ?_
          refine w_gf dX5_readSum_123 rfl hJ.1.1 (zs_1_0 h54) (zr_1_0_15 h54 hJ.1) ?_
          refine w_lo dX5_readSum_126 rfl rfl rfl rfl ?_
          refine w_iv dX5_readSum_127 rfl rfl (As := [.int v115_2]) rfl rfl hJ.1.1 (zs_1_13 h54) (Nat.le_of_ble_eq_true rfl) ?_
          refine ZV.imp (k_515 (b52 + 13) (zLw_of h54) v115_2 hN hJ.1) ?_
          rintro _ ⟨M56, rfl, hJ57, hq58⟩
          have hJ59 := zJ_trans hJ hJ57 (zSub_cons (fun _ _ h h' hk => ((zDm_or h54).elim (fun e => zIR_s (zIR_s (zIR_e (by omega) (by omega) hk))) (fun e => zIR_s (zIR_s (zIR_s (zIR_e (by omega) (by omega) hk)))))) (zSub_cons (fun _ _ h h' hk => ((zDm_or h54).elim (fun e => zIR_s (zIR_s (zIR_s (zIR_s (zIR_a (by omega) (by omega)))))) (fun e => zIR_s (zIR_s (zIR_s (zIR_s (zIR_s (zIR_a (by omega) (by omega))))))))) zSub_nil))
          show ZW _ _ _ _ _ _ _ (130, [some (.ref 2), some (.int 4), some (.int v115_2), some (.int v115_3), some (.int u115_4), some (.int u115_5)], [], M56)
          exact ih130 M56 v115_2 v115_3 u115_4 u115_5 hJ59 (by omega) (by omega) (by have := zt_4; omega)
        · skip
          refine w_ieq_t dX5_readSum_116 (t := 130) rfl (by omega) ?_
          exact ih130 M v115_2 v115_3 u115_4 u115_5 hJ (by omega) (by omega) (by have := zt_4; omega)
      · intro M u130_2 v130_3 u130_4 u130_5 hJ v130_30 v130_31 hn
        refine w_lo dX5_readSum_130 rfl rfl rfl rfl ?_
        refine w_bi dX5_readSum_131 (c := 43) (by decide) ?_
        refine w_iv dX5_readSum_133 rfl rfl (As := [.int 43]) rfl rfl hJ.1.1 zs_2 (Nat.le_of_ble_eq_true rfl) ?_
        refine ZV.imp (k_1299 43 (by have := zt_43; omega) (by have := zt_43; omega) hN hJ.1) ?_
        rintro _ ⟨x63, M60, rfl, h64, h65, hJ61, hq62⟩
        have hJ66 := zJ_trans hJ hJ61 zSub_nil
        show ZW _ _ _ _ _ _ _ (136, [some (.ref 2), some (.int 4), some (.int u130_2), some (.int v130_3), some (.int u130_4), some (.int u130_5)], [.int x63], M60)
        rcases Int.decEq x63.toInt (0 : Int) with h67 | h67
        · skip
          refine w_ieq_f dX5_readSum_136 (t := 144) rfl (by omega) ?_
          refine w_bi dX5_readSum_139 (c := (-12)) (by decide) ?_
          refine w_gt dX5_readSum_141 (t := 159) rfl ?_
          refine w_lo (ml' := [some (.ref 2), some (.int 4), some (.int (-12)), some (.int v130_3), some (.int u130_4), some (.int u130_5)]) dX5_readSum_159 rfl rfl rfl rfl ?_
          refine w_lo dX5_readSum_160 rfl rfl rfl rfl ?_
          refine w_ine_t dX5_readSum_161 (t := 167) rfl (by have := zt_m12; omega) ?_
          refine w_lo dX5_readSum_167 rfl rfl rfl rfl ?_
          refine w_iv dX5_readSum_168 rfl rfl (As := []) rfl rfl hJ66.1.1 zs_2 (Nat.le_of_ble_eq_true rfl) ?_
          refine ZV.imp (k_1289 hN hJ66.1) ?_
          rintro _ ⟨M68, rfl, hJ69, hq70⟩
          have hJ71 := zJ_trans hJ66 hJ69 (zSub_cons (fun _ _ h h' hk => zIR_s (zIR_s (zIR_s (zIR_s (zIR_s (zIR_s (zIR_e (by omega) (by omega) hk))))))) zSub_nil)
          show ZW _ _ _ _ _ _ _ (171, [some (.ref 2), some (.int 4), some (.int (-12)), some (.int v130_3), some (.int u130_4), some (.int u130_5)], [], M68)
          refine w_inc (kk := 3) dX5_readSum_171 rfl (m := 1) (by decide) (by omega) ?_
          intro x72 h73
          refine ⟨_, rfl, ?_⟩
          show ZW _ _ _ _ _ _ _ (174, [some (.ref 2), some (.int 4), some (.int (-12)), some (.int x72), some (.int u130_4), some (.int u130_5)], [], M68)
          refine w_gt dX5_readSum_174 (t := 4) rfl ?_
          exact ih4 M68 (-12) x72 (some (.int u130_4)) (some (.int u130_5)) hJ71 (by have := zt_m12; omega) (by have := zt_m12; omega) (by omega) (by omega) (by have := zt_4; have := zt_m12; omega)
        · skip
          refine w_ieq_t dX5_readSum_136 (t := 144) rfl (by omega) ?_
          refine w_lo dX5_readSum_144 rfl rfl rfl rfl ?_
          refine w_bi dX5_readSum_145 (c := 45) (by decide) ?_
          refine w_iv dX5_readSum_147 rfl rfl (As := [.int 45]) rfl rfl hJ66.1.1 zs_2 (Nat.le_of_ble_eq_true rfl) ?_
          refine ZV.imp (k_1299 45 (by have := zt_45; omega) (by have := zt_45; omega) hN hJ66.1) ?_
          rintro _ ⟨x77, M74, rfl, h78, h79, hJ75, hq76⟩
          have hJ80 := zJ_trans hJ66 hJ75 zSub_nil
          show ZW _ _ _ _ _ _ _ (150, [some (.ref 2), some (.int 4), some (.int u130_2), some (.int v130_3), some (.int u130_4), some (.int u130_5)], [.int x77], M74)
          rcases Int.decEq x77.toInt (0 : Int) with h81 | h81
          · skip
            refine w_ieq_f dX5_readSum_150 (t := 158) rfl (by omega) ?_
            refine w_bi dX5_readSum_153 (c := (-13)) (by decide) ?_
            refine w_gt dX5_readSum_155 (t := 159) rfl ?_
            refine w_lo (ml' := [some (.ref 2), some (.int 4), some (.int (-13)), some (.int v130_3), some (.int u130_4), some (.int u130_5)]) dX5_readSum_159 rfl rfl rfl rfl ?_
            refine w_lo dX5_readSum_160 rfl rfl rfl rfl ?_
            refine w_ine_t dX5_readSum_161 (t := 167) rfl (by have := zt_m13; omega) ?_
            refine w_lo dX5_readSum_167 rfl rfl rfl rfl ?_
            refine w_iv dX5_readSum_168 rfl rfl (As := []) rfl rfl hJ80.1.1 zs_2 (Nat.le_of_ble_eq_true rfl) ?_
            refine ZV.imp (k_1289 hN hJ80.1) ?_
            rintro _ ⟨M82, rfl, hJ83, hq84⟩
            have hJ85 := zJ_trans hJ80 hJ83 (zSub_cons (fun _ _ h h' hk => zIR_s (zIR_s (zIR_s (zIR_s (zIR_s (zIR_s (zIR_e (by omega) (by omega) hk))))))) zSub_nil)
            show ZW _ _ _ _ _ _ _ (171, [some (.ref 2), some (.int 4), some (.int (-13)), some (.int v130_3), some (.int u130_4), some (.int u130_5)], [], M82)
            refine w_inc (kk := 3) dX5_readSum_171 rfl (m := 1) (by decide) (by omega) ?_
            intro x86 h87
            refine ⟨_, rfl, ?_⟩
            show ZW _ _ _ _ _ _ _ (174, [some (.ref 2), some (.int 4), some (.int (-13)), some (.int x86), some (.int u130_4), some (.int u130_5)], [], M82)
            refine w_gt dX5_readSum_174 (t := 4) rfl ?_
            exact ih4 M82 (-13) x86 (some (.int u130_4)) (some (.int u130_5)) hJ85 (by have := zt_m13; omega) (by have := zt_m13; omega) (by omega) (by omega) (by have := zt_4; have := zt_m13; omega)
          · skip
            refine w_ieq_t dX5_readSum_150 (t := 158) rfl (by omega) ?_
            refine w_ic dX5_readSum_158 zi_0 ?_
            refine w_lo (ml' := [some (.ref 2), some (.int 4), some (.int 0), some (.int v130_3), some (.int u130_4), some (.int u130_5)]) dX5_readSum_159 rfl rfl rfl rfl ?_
            refine w_lo dX5_readSum_160 rfl rfl rfl rfl ?_
            refine w_ine_f dX5_readSum_161 (t := 167) rfl (by have := zt_0; omega) ?_
            refine w_gt dX5_readSum_164 (t := 177) rfl ?_
            refine w_ic dX5_readSum_177 zi_1 ?_
            refine w_en dX5_readSum_178 rfl ?_
            exact ⟨_, _, rfl, (by have := zt_1; omega), (by have := zt_1; omega), hJ80, trivial⟩
  obtain ⟨ih4, ih17, ih52, ih95, ih115, ih130⟩ := main 20582531
  show ZW _ _ _ _ _ _ _ (0, [some (.ref 2), some (.int 4), none, none, none, none], [], M0)
  refine w_ic dX5_readSum_0 zi_0 ?_
  refine w_lo (ml' := [some (.ref 2), some (.int 4), some (.int 0), none, none, none]) dX5_readSum_1 rfl rfl rfl rfl ?_
  refine w_ic dX5_readSum_2 zi_0 ?_
  refine w_lo (ml' := [some (.ref 2), some (.int 4), some (.int 0), some (.int 0), none, none]) dX5_readSum_3 rfl rfl rfl rfl ?_
  exact ih4 M0 0 0 none none hJ0 (by have := zt_0; omega) (by have := zt_0; omega) (by have := zt_0; omega) (by have := zt_0; omega) (by have := zt_4; have := zt_0; omega)
set_option maxRecDepth 100000 in
theorem k_1298_c3 {X : List Int32} {d N : Nat} {M0 : zM}  (hN : N ≤ 600) (hB0 : zB N M0) : ZV X (d + 12) 1298 [.ref 2, .int 3] M0 (zRI N [(2, 3, 0), (2, 3, 1), (20, 21, 1), (41, 42, 1), (21, 22, 1000), (42, 43, 1000), (2, 3, 7)] M0 (0) (1) (fun _ _ => True)) := by
  have hJ0 : zJ N [(2, 3, 0), (2, 3, 1), (20, 21, 1), (41, 42, 1), (21, 22, 1000), (42, 43, 1000), (2, 3, 7)] M0 M0 := zJ_refl hB0
  refine ZV.of (ini := false) rfl (Nat.le_of_ble_eq_true rfl) (by decide +kernel) ?_
  have main : ∀ n : Nat,
      (∀ (M : zM) (v73_2 : Int32) (o73_3 : Option Value), zJ N [(2, 3, 0), (2, 3, 1), (20, 21, 1), (41, 42, 1), (21, 22, 1000), (42, 43, 1000), (2, 3, 7)] M0 M → ((-1 : Int) ≤ v73_2.toInt) → (v73_2.toInt ≤ 26) → 3 < (n : Int) → ZW X (d + 11) 5 false (some .boolean) cX5_readPart (zRI N [(2, 3, 0), (2, 3, 1), (20, 21, 1), (41, 42, 1), (21, 22, 1000), (42, 43, 1000), (2, 3, 7)] M0 (0) (1) (fun _ _ => True)) (73, [some (.ref 2), some (.int 3), some (.int v73_2), o73_3], [], M)) ∧
      (∀ (M : zM) (v85_2 : Int32) (o85_3 : Option Value), zJ N [(2, 3, 0), (2, 3, 1), (20, 21, 1), (41, 42, 1), (21, 22, 1000), (42, 43, 1000), (2, 3, 7)] M0 M → ((25 : Int) ≤ v85_2.toInt) → (v85_2.toInt ≤ 26) → 2 < (n : Int) → ZW X (d + 11) 5 false (some .boolean) cX5_readPart (zRI N [(2, 3, 0), (2, 3, 1), (20, 21, 1), (41, 42, 1), (21, 22, 1000), (42, 43, 1000), (2, 3, 7)] M0 (0) (1) (fun _ _ => True)) (85, [some (.ref 2), some (.int 3), some (.int v85_2), o85_3], [], M)) ∧
      (∀ (M : zM) (v99_2 : Int32) (v99_3 : Int32), zJ N [(2, 3, 0), (2, 3, 1), (20, 21, 1), (41, 42, 1), (21, 22, 1000), (42, 43, 1000), (2, 3, 7)] M0 M → ((-1 : Int) ≤ v99_2.toInt) → (v99_2.toInt ≤ 26) → ((0 : Int) ≤ v99_3.toInt) → (v99_3.toInt ≤ 1) → 1 < (n : Int) → ZW X (d + 11) 5 false (some .boolean) cX5_readPart (zRI N [(2, 3, 0), (2, 3, 1), (20, 21, 1), (41, 42, 1), (21, 22, 1000), (42, 43, 1000), (2, 3, 7)] M0 (0) (1) (fun _ _ => True)) (99, [some (.ref 2), some (.int 3), some (.int v99_2), some (.int v99_3)], [], M)) := by
    intro n
    induction n with
    | zero =>
      exact ⟨(fun M v73_2 o73_3 hJ v73_20 v73_21 hn => absurd hn (by omega)), (fun M v85_2 o85_3 hJ v85_20 v85_21 hn => absurd hn (by omega)), (fun M v99_2 v99_3 hJ v99_20 v99_21 v99_30 v99_31 hn => absurd hn (by omega))⟩
    | succ n ih =>
      obtain ⟨ih73, ih85, ih99⟩ := ih
      refine ⟨?_, ?_, ?_⟩
      · intro M v73_2 o73_3 hJ v73_20 v73_21 hn
        refine w_lo dX5_readPart_73 rfl rfl rfl rfl ?_
        refine w_bi dX5_readPart_74 (c := 25) (by decide) ?_
        rcases Int.decEq v73_2.toInt (25 : Int) with h1 | h1
        · skip
          refine w_ceq_f dX5_readPart_76 (t := 85) rfl (by have := zt_25; omega) ?_
          refine w_lo dX5_readPart_79 rfl rfl rfl rfl ?_
          refine w_bi dX5_readPart_80 (c := 26) (by decide) ?_
          rcases Int.decEq v73_2.toInt (26 : Int) with h2 | h2
          · skip
            refine w_cne_t dX5_readPart_82 (t := 89) rfl (by have := zt_26; omega) ?_
            refine w_ic dX5_readPart_89 zi_0 ?_
            refine w_lo (ml' := [some (.ref 2), some (.int 3), some (.int v73_2), some (.int 0)]) dX5_readPart_90 rfl rfl rfl rfl ?_
            refine w_lo dX5_readPart_91 rfl rfl rfl rfl ?_
            refine w_ieq_t dX5_readPart_92 (t := 99) rfl (by have := zt_0; omega) ?_
            exact ih99 M v73_2 0 hJ (by omega) (by omega) (by have := zt_0; omega) (by have := zt_0; omega) (by have := zt_3; have := zt_0; omega)
          · skip
            refine w_cne_f dX5_readPart_82 (t := 89) rfl (by have := zt_26; omega) ?_
            exact ih85 M v73_2 o73_3 hJ (by omega) (by omega) (by have := zt_3; omega)
        · skip
          refine w_ceq_t dX5_readPart_76 (t := 85) rfl (by have := zt_25; omega) ?_
          exact ih85 M v73_2 o73_3 hJ (by omega) (by omega) (by have := zt_3; omega)
      · intro M v85_2 o85_3 hJ v85_20 v85_21 hn
        refine w_ic dX5_readPart_85 zi_1 ?_
        refine w_gt dX5_readPart_86 (t := 90) rfl ?_
        refine w_lo (ml' := [some (.ref 2), some (.int 3), some (.int v85_2), some (.int 1)]) dX5_readPart_90 rfl rfl rfl rfl ?_
        refine w_lo dX5_readPart_91 rfl rfl rfl rfl ?_
        refine w_ieq_f dX5_readPart_92 (t := 99) rfl (by have := zt_1; omega) ?_
        refine w_lo dX5_readPart_95 rfl rfl rfl rfl ?_
        refine w_iv dX5_readPart_96 rfl rfl (As := []) rfl rfl hJ.1.1 zs_2 (Nat.le_of_ble_eq_true rfl) ?_
        refine ZV.imp (k_1289 hN hJ.1) ?_
        rintro _ ⟨M3, rfl, hJ4, hq5⟩
        have hJ6 := zJ_trans hJ hJ4 (zSub_cons (fun _ _ h h' hk => zIR_s (zIR_s (zIR_s (zIR_s (zIR_s (zIR_s (zIR_e (by omega) (by omega) hk))))))) zSub_nil)
        show ZW _ _ _ _ _ _ _ (99, [some (.ref 2), some (.int 3), some (.int v85_2), some (.int 1)], [], M3)
        exact ih99 M3 v85_2 1 hJ6 (by omega) (by omega) (by have := zt_1; omega) (by have := zt_1; omega) (by have := zt_3; have := zt_1; omega)
      · intro M v99_2 v99_3 hJ v99_20 v99_21 v99_30 v99_31 hn
        refine w_lo dX5_readPart_99 rfl rfl rfl rfl ?_
        refine w_bi dX5_readPart_100 (c := 40) (by decide) ?_
        refine w_iv dX5_readPart_102 rfl rfl (As := [.int 40]) rfl rfl hJ.1.1 zs_2 (Nat.le_of_ble_eq_true rfl) ?_
        refine ZV.imp (k_1299 40 (by have := zt_40; omega) (by have := zt_40; omega) hN hJ.1) ?_
        rintro _ ⟨x10, M7, rfl, h11, h12, hJ8, hq9⟩
        have hJ13 := zJ_trans hJ hJ8 zSub_nil
        show ZW _ _ _ _ _ _ _ (105, [some (.ref 2), some (.int 3), some (.int v99_2), some (.int v99_3)], [.int x10], M7)
        rcases Int.decEq x10.toInt (0 : Int) with h14 | h14
        · skip
          refine w_ine_t dX5_readPart_105 (t := 114) rfl (by omega) ?_
          refine w_lo dX5_readPart_114 rfl rfl rfl rfl ?_
          refine w_bi dX5_readPart_115 (c := 8) (by decide) ?_
          refine w_clt_t dX5_readPart_117 (t := 126) rfl (by have := zt_3; have := zt_8; omega) ?_
          refine w_lo dX5_readPart_126 rfl rfl rfl rfl ?_
          refine w_iv dX5_readPart_127 rfl rfl (As := []) rfl rfl hJ13.1.1 zs_2 (Nat.le_of_ble_eq_true rfl) ?_
          refine ZV.imp (k_1289 hN hJ13.1) ?_
          rintro _ ⟨M15, rfl, hJ16, hq17⟩
          have hJ18 := zJ_trans hJ13 hJ16 (zSub_cons (fun _ _ h h' hk => zIR_s (zIR_s (zIR_s (zIR_s (zIR_s (zIR_s (zIR_e (by omega) (by omega) hk))))))) zSub_nil)
          show ZW _ _ _ _ _ _ _ (130, [some (.ref 2), some (.int 3), some (.int v99_2), some (.int v99_3)], [], M15)
          refine w_lo dX5_readPart_130 rfl rfl rfl rfl ?_
          refine w_lo dX5_readPart_131 rfl rfl rfl rfl ?_
          refine w_ic dX5_readPart_132 zi_1 ?_
          refine w_pu (st' := [.int 4, .ref 2]) dX5_readPart_133 rfl rfl ?_
          refine w_iv dX5_readPart_134 rfl rfl (As := [.int 4]) rfl rfl hJ18.1.1 zs_2 (Nat.le_of_ble_eq_true rfl) ?_
          refine ZV.imp (k_1297_c4 hN hJ18.1) ?_
          rintro _ ⟨x22, M19, rfl, h23, h24, hJ20, hq21⟩
          have hJ25 := zJ_trans hJ18 hJ20 (zSub_cons (fun _ _ h h' hk => zIR_e (by omega) (by omega) hk) (zSub_cons (fun _ _ h h' hk => zIR_s (zIR_e (by omega) (by omega) hk)) (zSub_cons (fun _ _ h h' hk => zIR_s (zIR_s (zIR_e (by omega) (by omega) hk))) (zSub_cons (fun _ _ h h' hk => zIR_s (zIR_s (zIR_s (zIR_e (by omega) (by omega) hk)))) (zSub_cons (fun _ _ h h' hk => zIR_s (zIR_s (zIR_s (zIR_s (zIR_a (by omega) (by omega)))))) (zSub_cons (fun _ _ h h' hk => zIR_s (zIR_s (zIR_s (zIR_s (zIR_s (zIR_a (by omega) (by omega))))))) (zSub_cons (fun _ _ h h' hk => zIR_s (zIR_s (zIR_s (zIR_s (zIR_s (zIR_s (zIR_e (by omega) (by omega) hk))))))) zSub_nil)))))))
          show ZW _ _ _ _ _ _ _ (137, [some (.ref 2), some (.int 3), some (.int v99_2), some (.int v99_3)], [.int x22], M19)
          rcases Int.decEq x22.toInt (0 : Int) with h26 | h26
          · skip
            refine w_ine_t dX5_readPart_137 (t := 142) rfl (by omega) ?_
            refine w_lo dX5_readPart_142 rfl rfl rfl rfl ?_
            rcases Int.decEq v99_3.toInt (0 : Int) with h27 | h27
            · skip
              refine w_ieq_f dX5_readPart_143 (t := 200) rfl (by omega) ?_
              refine w_lo dX5_readPart_146 rfl rfl rfl rfl ?_
              refine w_bi dX5_readPart_147 (c := 44) (by decide) ?_
              refine w_iv dX5_readPart_149 rfl rfl (As := [.int 44]) rfl rfl hJ25.1.1 zs_2 (Nat.le_of_ble_eq_true rfl) ?_
              refine ZV.imp (k_1299 44 (by have := zt_44; omega) (by have := zt_44; omega) hN hJ25.1) ?_
              rintro _ ⟨x31, M28, rfl, h32, h33, hJ29, hq30⟩
              have hJ34 := zJ_trans hJ25 hJ29 zSub_nil
              show ZW _ _ _ _ _ _ _ (152, [some (.ref 2), some (.int 3), some (.int v99_2), some (.int v99_3)], [.int x31], M28)
              rcases Int.decEq x31.toInt (0 : Int) with h35 | h35
              · skip
                refine w_ine_t dX5_readPart_152 (t := 161) rfl (by omega) ?_
                refine w_lo dX5_readPart_161 rfl rfl rfl rfl ?_
                refine w_iv dX5_readPart_162 rfl rfl (As := []) rfl rfl hJ34.1.1 zs_2 (Nat.le_of_ble_eq_true rfl) ?_
                refine ZV.imp (k_1289 hN hJ34.1) ?_
                rintro _ ⟨M36, rfl, hJ37, hq38⟩
                have hJ39 := zJ_trans hJ34 hJ37 (zSub_cons (fun _ _ h h' hk => zIR_s (zIR_s (zIR_s (zIR_s (zIR_s (zIR_s (zIR_e (by omega) (by omega) hk))))))) zSub_nil)
                show ZW _ _ _ _ _ _ _ (165, [some (.ref 2), some (.int 3), some (.int v99_2), some (.int v99_3)], [], M36)
                refine w_lo dX5_readPart_165 rfl rfl rfl rfl ?_
                refine w_lo dX5_readPart_166 rfl rfl rfl rfl ?_
                refine w_ic dX5_readPart_167 zi_1 ?_
                refine w_pu (st' := [.int 4, .ref 2]) dX5_readPart_168 rfl rfl ?_
                refine w_iv dX5_readPart_169 rfl rfl (As := [.int 4]) rfl rfl hJ39.1.1 zs_2 (Nat.le_of_ble_eq_true rfl) ?_
                refine ZV.imp (k_1297_c4 hN hJ39.1) ?_
                rintro _ ⟨x43, M40, rfl, h44, h45, hJ41, hq42⟩
                have hJ46 := zJ_trans hJ39 hJ41 (zSub_cons (fun _ _ h h' hk => zIR_e (by omega) (by omega) hk) (zSub_cons (fun _ _ h h' hk => zIR_s (zIR_e (by omega) (by omega) hk)) (zSub_cons (fun _ _ h h' hk => zIR_s (zIR_s (zIR_e (by omega) (by omega) hk))) (zSub_cons (fun _ _ h h' hk => zIR_s (zIR_s (zIR_s (zIR_e (by omega) (by omega) hk)))) (zSub_cons (fun _ _ h h' hk => zIR_s (zIR_s (zIR_s (zIR_s (zIR_a (by omega) (by omega)))))) (zSub_cons (fun _ _ h h' hk => zIR_s (zIR_s (zIR_s (zIR_s (zIR_s (zIR_a (by omega) (by omega))))))) (zSub_cons (fun _ _ h h' hk => zIR_s (zIR_s (zIR_s (zIR_s (zIR_s (zIR_s (zIR_e (by omega) (by omega) hk))))))) zSub_nil)))))))
                show ZW _ _ _ _ _ _ _ (172, [some (.ref 2), some (.int 3), some (.int v99_2), some (.int v99_3)], [.int x43], M40)
                rcases Int.decEq x43.toInt (0 : Int) with h47 | h47
                · skip
                  refine w_ine_t dX5_readPart_172 (t := 177) rfl (by omega) ?_
                  refine w_lo dX5_readPart_177 rfl rfl rfl rfl ?_
                  obtain ⟨b48, f49, h50⟩ := zd_2_8 hJ46.1
                  have h51 := zDm_b h50
                  refine w_gf dX5_readPart_178 rfl hJ46.1.1 zs_2 f49 ?_
                  refine w_gf dX5_readPart_181 rfl hJ46.1.1 (zs_1_0 h50) (zr_1_0_15 h50 hJ46.1) ?_
                  refine w_lo dX5_readPart_184 rfl rfl rfl rfl ?_
                  refine w_bi dX5_readPart_185 (c := 25) (by decide) ?_
                  rcases Int.decEq v99_2.toInt (25 : Int) with h52 | h52
                  · skip
                    refine w_cne_t dX5_readPart_187 (t := 195) rfl (by have := zt_25; omega) ?_
                    refine w_bi dX5_readPart_195 (c := (-20)) (by decide) ?_
                    refine w_iv dX5_readPart_197 rfl rfl (As := [.int (-20)]) rfl rfl hJ46.1.1 (zs_1_13 h50) (Nat.le_of_ble_eq_true rfl) ?_
                    refine ZV.imp (k_515 (b48 + 13) (zLw_of h50) (-20) hN hJ46.1) ?_
                    rintro _ ⟨M53, rfl, hJ54, hq55⟩
                    have hJ56 := zJ_trans hJ46 hJ54 (zSub_cons (fun _ _ h h' hk => ((zDm_or h50).elim (fun e => zIR_s (zIR_s (zIR_e (by omega) (by omega) hk))) (fun e => zIR_s (zIR_s (zIR_s (zIR_e (by omega) (by omega) hk)))))) (zSub_cons (fun _ _ h h' hk => ((zDm_or h50).elim (fun e => zIR_s (zIR_s (zIR_s (zIR_s (zIR_a (by omega) (by omega)))))) (fun e => zIR_s (zIR_s (zIR_s (zIR_s (zIR_s (zIR_a (by omega) (by omega))))))))) zSub_nil))
                    show ZW _ _ _ _ _ _ _ (200, [some (.ref 2), some (.int 3), some (.int v99_2), some (.int v99_3)], [], M53)
                    refine w_lo dX5_readPart_200 rfl rfl rfl rfl ?_
                    refine w_bi dX5_readPart_201 (c := 41) (by decide) ?_
                    refine w_iv dX5_readPart_203 rfl rfl (As := [.int 41]) rfl rfl hJ56.1.1 zs_2 (Nat.le_of_ble_eq_true rfl) ?_
                    refine ZV.imp (k_1299 41 (by have := zt_41; omega) (by have := zt_41; omega) hN hJ56.1) ?_
                    rintro _ ⟨x60, M57, rfl, h61, h62, hJ58, hq59⟩
                    have hJ63 := zJ_trans hJ56 hJ58 zSub_nil
                    show ZW _ _ _ _ _ _ _ (206, [some (.ref 2), some (.int 3), some (.int v99_2), some (.int v99_3)], [.int x60], M57)
                    rcases Int.decEq x60.toInt (0 : Int) with h64 | h64
                    · skip
                      refine w_ine_t dX5_readPart_206 (t := 215) rfl (by omega) ?_
                      refine w_lo dX5_readPart_215 rfl rfl rfl rfl ?_
                      refine w_iv dX5_readPart_216 rfl rfl (As := []) rfl rfl hJ63.1.1 zs_2 (Nat.le_of_ble_eq_true rfl) ?_
                      refine ZV.imp (k_1289 hN hJ63.1) ?_
                      rintro _ ⟨M65, rfl, hJ66, hq67⟩
                      have hJ68 := zJ_trans hJ63 hJ66 (zSub_cons (fun _ _ h h' hk => zIR_s (zIR_s (zIR_s (zIR_s (zIR_s (zIR_s (zIR_e (by omega) (by omega) hk))))))) zSub_nil)
                      show ZW _ _ _ _ _ _ _ (219, [some (.ref 2), some (.int 3), some (.int v99_2), some (.int v99_3)], [], M65)
                      refine w_ic dX5_readPart_219 zi_1 ?_
                      refine w_en dX5_readPart_220 rfl ?_
                      exact ⟨_, _, rfl, (by have := zt_1; omega), (by have := zt_1; omega), hJ68, trivial⟩
                    · skip
                      refine w_ine_f dX5_readPart_206 (t := 215) rfl (by omega) ?_
                      refine w_lo dX5_readPart_209 rfl rfl rfl rfl ?_
                      refine w_ic dX5_readPart_210 zi_1 ?_
                      refine w_iv dX5_readPart_211 rfl rfl (As := [.int 1]) rfl rfl hJ63.1.1 zs_2 (Nat.le_of_ble_eq_true rfl) ?_
                      refine ZV.imp (k_1286 1 (by have := zt_1; omega) (by have := zt_1; omega) hN hJ63.1) ?_
                      rintro _ ⟨x72, M69, rfl, h73, h74, hJ70, hq71⟩
                      have hJ75 := zJ_trans hJ63 hJ70 (zSub_cons (fun _ _ h h' hk => zIR_e (by omega) (by omega) hk) (zSub_cons (fun _ _ h h' hk => zIR_s (zIR_e (by omega) (by omega) hk)) zSub_nil))
                      show ZW _ _ _ _ _ _ _ (214, [some (.ref 2), some (.int 3), some (.int v99_2), some (.int v99_3)], [.int x72], M69)
                      refine w_eni dX5_readPart_214 rfl (znb (by omega) (by omega)) ?_
                      exact ⟨_, _, rfl, (by omega), (by omega), hJ75, trivial⟩
                  · skip
                    refine w_cne_f dX5_readPart_187 (t := 195) rfl (by have := zt_25; omega) ?_
                    refine w_bi dX5_readPart_190 (c := (-19)) (by decide) ?_
                    refine w_gt dX5_readPart_192 (t := 197) rfl ?_
                    refine w_iv dX5_readPart_197 rfl rfl (As := [.int (-19)]) rfl rfl hJ46.1.1 (zs_1_13 h50) (Nat.le_of_ble_eq_true rfl) ?_
                    refine ZV.imp (k_515 (b48 + 13) (zLw_of h50) (-19) hN hJ46.1) ?_
                    rintro _ ⟨M76, rfl, hJ77, hq78⟩
                    have hJ79 := zJ_trans hJ46 hJ77 (zSub_cons (fun _ _ h h' hk => ((zDm_or h50).elim (fun e => zIR_s (zIR_s (zIR_e (by omega) (by omega) hk))) (fun e => zIR_s (zIR_s (zIR_s (zIR_e (by omega) (by omega) hk)))))) (zSub_cons (fun _ _ h h' hk => ((zDm_or h50).elim (fun e => zIR_s (zIR_s (zIR_s (zIR_s (zIR_a (by omega) (by omega)))))) (fun e => zIR_s (zIR_s (zIR_s (zIR_s (zIR_s (zIR_a (by omega) (by omega))))))))) zSub_nil))
                    show ZW _ _ _ _ _ _ _ (200, [some (.ref 2), some (.int 3), some (.int v99_2), some (.int v99_3)], [], M76)
                    refine w_lo dX5_readPart_200 rfl rfl rfl rfl ?_
                    refine w_bi dX5_readPart_201 (c := 41) (by decide) ?_
                    refine w_iv dX5_readPart_203 rfl rfl (As := [.int 41]) rfl rfl hJ79.1.1 zs_2 (Nat.le_of_ble_eq_true rfl) ?_
                    refine ZV.imp (k_1299 41 (by have := zt_41; omega) (by have := zt_41; omega) hN hJ79.1) ?_
                    rintro _ ⟨x83, M80, rfl, h84, h85, hJ81, hq82⟩
                    have hJ86 := zJ_trans hJ79 hJ81 zSub_nil
                    show ZW _ _ _ _ _ _ _ (206, [some (.ref 2), some (.int 3), some (.int v99_2), some (.int v99_3)], [.int x83], M80)
                    rcases Int.decEq x83.toInt (0 : Int) with h87 | h87
                    · skip
                      refine w_ine_t dX5_readPart_206 (t := 215) rfl (by omega) ?_
                      refine w_lo dX5_readPart_215 rfl rfl rfl rfl ?_
                      refine w_iv dX5_readPart_216 rfl rfl (As := []) rfl rfl hJ86.1.1 zs_2 (Nat.le_of_ble_eq_true rfl) ?_
                      refine ZV.imp (k_1289 hN hJ86.1) ?_
                      rintro _ ⟨M88, rfl, hJ89, hq90⟩
                      have hJ91 := zJ_trans hJ86 hJ89 (zSub_cons (fun _ _ h h' hk => zIR_s (zIR_s (zIR_s (zIR_s (zIR_s (zIR_s (zIR_e (by omega) (by omega) hk))))))) zSub_nil)
                      show ZW _ _ _ _ _ _ _ (219, [some (.ref 2), some (.int 3), some (.int v99_2), some (.int v99_3)], [], M88)
                      refine w_ic dX5_readPart_219 zi_1 ?_
                      refine w_en dX5_readPart_220 rfl ?_
                      exact ⟨_, _, rfl, (by have := zt_1; omega), (by have := zt_1; omega), hJ91, trivial⟩
                    · skip
                      refine w_ine_f dX5_readPart_206 (t := 215) rfl (by omega) ?_
                      refine w_lo dX5_readPart_209 rfl rfl rfl rfl ?_
                      refine w_ic dX5_readPart_210 zi_1 ?_
                      refine w_iv dX5_readPart_211 rfl rfl (As := [.int 1]) rfl rfl hJ86.1.1 zs_2 (Nat.le_of_ble_eq_true rfl) ?_
                      refine ZV.imp (k_1286 1 (by have := zt_1; omega) (by have := zt_1; omega) hN hJ86.1) ?_
                      rintro _ ⟨x95, M92, rfl, h96, h97, hJ93, hq94⟩
                      have hJ98 := zJ_trans hJ86 hJ93 (zSub_cons (fun _ _ h h' hk => zIR_e (by omega) (by omega) hk) (zSub_cons (fun _ _ h h' hk => zIR_s (zIR_e (by omega) (by omega) hk)) zSub_nil))
                      show ZW _ _ _ _ _ _ _ (214, [some (.ref 2), some (.int 3), some (.int v99_2), some (.int v99_3)], [.int x95], M92)
                      refine w_eni dX5_readPart_214 rfl (znb (by omega) (by omega)) ?_
                      exact ⟨_, _, rfl, (by omega), (by omega), hJ98, trivial⟩
                · skip
                  refine w_ine_f dX5_readPart_172 (t := 177) rfl (by omega) ?_
                  refine w_ic dX5_readPart_175 zi_0 ?_
                  refine w_en dX5_readPart_176 rfl ?_
                  exact ⟨_, _, rfl, (by have := zt_0; omega), (by have := zt_0; omega), hJ46, trivial⟩
              · skip
                refine w_ine_f dX5_readPart_152 (t := 161) rfl (by omega) ?_
                refine w_lo dX5_readPart_155 rfl rfl rfl rfl ?_
                refine w_ic dX5_readPart_156 zi_1 ?_
                refine w_iv dX5_readPart_157 rfl rfl (As := [.int 1]) rfl rfl hJ34.1.1 zs_2 (Nat.le_of_ble_eq_true rfl) ?_
                refine ZV.imp (k_1286 1 (by have := zt_1; omega) (by have := zt_1; omega) hN hJ34.1) ?_
                rintro _ ⟨x102, M99, rfl, h103, h104, hJ100, hq101⟩
                have hJ105 := zJ_trans hJ34 hJ100 (zSub_cons (fun _ _ h h' hk => zIR_e (by omega) (by omega) hk) (zSub_cons (fun _ _ h h' hk => zIR_s (zIR_e (by omega) (by omega) hk)) zSub_nil))
                show ZW _ _ _ _ _ _ _ (160, [some (.ref 2), some (.int 3), some (.int v99_2), some (.int v99_3)], [.int x102], M99)
                refine w_eni dX5_readPart_160 rfl (znb (by omega) (by omega)) ?_
                exact ⟨_, _, rfl, (by omega), (by omega), hJ105, trivial⟩
            · skip
              refine w_ieq_t dX5_readPart_143 (t := 200) rfl (by omega) ?_
              refine w_lo dX5_readPart_200 rfl rfl rfl rfl ?_
              refine w_bi dX5_readPart_201 (c := 41) (by decide) ?_
              refine w_iv dX5_readPart_203 rfl rfl (As := [.int 41]) rfl rfl hJ25.1.1 zs_2 (Nat.le_of_ble_eq_true rfl) ?_
              refine ZV.imp (k_1299 41 (by have := zt_41; omega) (by have := zt_41; omega) hN hJ25.1) ?_
              rintro _ ⟨x109, M106, rfl, h110, h111, hJ107, hq108⟩
              have hJ112 := zJ_trans hJ25 hJ107 zSub_nil
              show ZW _ _ _ _ _ _ _ (206, [some (.ref 2), some (.int 3), some (.int v99_2), some (.int v99_3)], [.int x109], M106)
              rcases Int.decEq x109.toInt (0 : Int) with h113 | h113
              · skip
                refine w_ine_t dX5_readPart_206 (t := 215) rfl (by omega) ?_
                refine w_lo dX5_readPart_215 rfl rfl rfl rfl ?_
                refine w_iv dX5_readPart_216 rfl rfl (As := []) rfl rfl hJ112.1.1 zs_2 (Nat.le_of_ble_eq_true rfl) ?_
                refine ZV.imp (k_1289 hN hJ112.1) ?_
                rintro _ ⟨M114, rfl, hJ115, hq116⟩
                have hJ117 := zJ_trans hJ112 hJ115 (zSub_cons (fun _ _ h h' hk => zIR_s (zIR_s (zIR_s (zIR_s (zIR_s (zIR_s (zIR_e (by omega) (by omega) hk))))))) zSub_nil)
                show ZW _ _ _ _ _ _ _ (219, [some (.ref 2), some (.int 3), some (.int v99_2), some (.int v99_3)], [], M114)
                refine w_ic dX5_readPart_219 zi_1 ?_
                refine w_en dX5_readPart_220 rfl ?_
                exact ⟨_, _, rfl, (by have := zt_1; omega), (by have := zt_1; omega), hJ117, trivial⟩
              · skip
                refine w_ine_f dX5_readPart_206 (t := 215) rfl (by omega) ?_
                refine w_lo dX5_readPart_209 rfl rfl rfl rfl ?_
                refine w_ic dX5_readPart_210 zi_1 ?_
                refine w_iv dX5_readPart_211 rfl rfl (As := [.int 1]) rfl rfl hJ112.1.1 zs_2 (Nat.le_of_ble_eq_true rfl) ?_
                refine ZV.imp (k_1286 1 (by have := zt_1; omega) (by have := zt_1; omega) hN hJ112.1) ?_
                rintro _ ⟨x121, M118, rfl, h122, h123, hJ119, hq120⟩
                have hJ124 := zJ_trans hJ112 hJ119 (zSub_cons (fun _ _ h h' hk => zIR_e (by omega) (by omega) hk) (zSub_cons (fun _ _ h h' hk => zIR_s (zIR_e (by omega) (by omega) hk)) zSub_nil))
                show ZW _ _ _ _ _ _ _ (214, [some (.ref 2), some (.int 3), some (.int v99_2), some (.int v99_3)], [.int x121], M118)
                refine w_eni dX5_readPart_214 rfl (znb (by omega) (by omega)) ?_
                exact ⟨_, _, rfl, (by omega), (by omega), hJ124, trivial⟩
          · skip
            refine w_ine_f dX5_readPart_137 (t := 142) rfl (by omega) ?_
            refine w_ic dX5_readPart_140 zi_0 ?_
            refine w_en dX5_readPart_141 rfl ?_
            exact ⟨_, _, rfl, (by have := zt_0; omega), (by have := zt_0; omega), hJ25, trivial⟩
        · skip
          refine w_ine_f dX5_readPart_105 (t := 114) rfl (by omega) ?_
          refine w_lo dX5_readPart_108 rfl rfl rfl rfl ?_
          refine w_ic dX5_readPart_109 zi_1 ?_
          refine w_iv dX5_readPart_110 rfl rfl (As := [.int 1]) rfl rfl hJ13.1.1 zs_2 (Nat.le_of_ble_eq_true rfl) ?_
          refine ZV.imp (k_1286 1 (by have := zt_1; omega) (by have := zt_1; omega) hN hJ13.1) ?_
          rintro _ ⟨x128, M125, rfl, h129, h130, hJ126, hq127⟩
          have hJ131 := zJ_trans hJ13 hJ126 (zSub_cons (fun _ _ h h' hk => zIR_e (by omega) (by omega) hk) (zSub_cons (fun _ _ h h' hk => zIR_s (zIR_e (by omega) (by omega) hk)) zSub_nil))
          show ZW _ _ _ _ _ _ _ (113, [some (.ref 2), some (.int 3), some (.int v99_2), some (.int v99_3)], [.int x128], M125)
          refine w_eni dX5_readPart_113 rfl (znb (by omega) (by omega)) ?_
          exact ⟨_, _, rfl, (by omega), (by omega), hJ131, trivial⟩
  obtain ⟨ih73, ih85, ih99⟩ := main 8
  show ZW _ _ _ _ _ _ _ (0, [some (.ref 2), some (.int 3), none, none], [], M0)
  refine w_lo dX5_readPart_0 rfl rfl rfl rfl ?_
  refine w_gf dX5_readPart_1 rfl hJ0.1.1 zs_2 (zr_2_3 hJ0.1) ?_
  refine w_lo dX5_readPart_4 rfl rfl rfl rfl ?_
  refine w_gfi dX5_readPart_5 rfl hJ0.1 zs_2 (Nat.le_of_ble_eq_true rfl) zo_2_7 ?_
  intro x132 f133 h134 h135
  refine w_iai dX5_readPart_8 hJ0.1 zs_4 (by omega) (by omega) zu_4 ?_
  intro x139 f136 h137 h138
  refine w_ic dX5_readPart_9 zi_4 ?_
  rcases Int.decEq x139.toInt (4 : Int) with h140 | h140
  · skip
    refine w_cne_t dX5_readPart_10 (t := 38) rfl (by have := zt_4; omega) ?_
    refine w_lo dX5_readPart_38 rfl rfl rfl rfl ?_
    refine w_iv dX5_readPart_39 rfl rfl (As := []) rfl rfl hJ0.1.1 zs_2 (Nat.le_of_ble_eq_true rfl) ?_
    refine ZV.imp (k_1287 hN hJ0.1) ?_
    rintro _ ⟨x144, M141, rfl, h145, h146, hJ142, hq143⟩
    have hJ147 := zJ_trans hJ0 hJ142 zSub_nil
    show ZW _ _ _ _ _ _ _ (42, [some (.ref 2), some (.int 3), none, none], [.int x144], M141)
    refine w_lo (ml' := [some (.ref 2), some (.int 3), some (.int x144), none]) dX5_readPart_42 rfl rfl rfl rfl ?_
    refine w_lo dX5_readPart_43 rfl rfl rfl rfl ?_
    refine w_ic dX5_readPart_44 zi_m1 ?_
    rcases Int.decEq x144.toInt (-1 : Int) with h148 | h148
    · skip
      refine w_ceq_f dX5_readPart_45 (t := 73) rfl (by have := zt_m1; omega) ?_
      refine w_lo dX5_readPart_48 rfl rfl rfl rfl ?_
      refine w_bi dX5_readPart_49 (c := 7) (by decide) ?_
      rcases zcut x144.toInt (7 : Int) with h149 | h149
      · skip
        refine w_cge_f dX5_readPart_51 (t := 73) rfl (by have := zt_7; omega) ?_
        refine w_lo dX5_readPart_54 rfl rfl rfl rfl ?_
        obtain ⟨b150, f151, h152⟩ := zd_2_8 hJ147.1
        have h153 := zDm_b h152
        refine w_gf dX5_readPart_55 rfl hJ147.1.1 zs_2 f151 ?_
        refine w_gf dX5_readPart_58 rfl hJ147.1.1 (zs_1_0 h152) (zr_1_0_15 h152 hJ147.1) ?_
        refine w_ic dX5_readPart_61 zi_m1 ?_
        refine w_lo dX5_readPart_62 rfl rfl rfl rfl ?_
        refine w_sub dX5_readPart_63 (by have := zt_m1; omega) ?_
        intro x154 h155
        have := zt_m1
        refine w_iv dX5_readPart_64 rfl rfl (As := [.int x154]) rfl rfl hJ147.1.1 (zs_1_13 h152) (Nat.le_of_ble_eq_true rfl) ?_
        refine ZV.imp (k_515 (b150 + 13) (zLw_of h152) x154 hN hJ147.1) ?_
        rintro _ ⟨M156, rfl, hJ157, hq158⟩
        have hJ159 := zJ_trans hJ147 hJ157 (zSub_cons (fun _ _ h h' hk => ((zDm_or h152).elim (fun e => zIR_s (zIR_s (zIR_e (by omega) (by omega) hk))) (fun e => zIR_s (zIR_s (zIR_s (zIR_e (by omega) (by omega) hk)))))) (zSub_cons (fun _ _ h h' hk => ((zDm_or h152).elim (fun e => zIR_s (zIR_s (zIR_s (zIR_s (zIR_a (by omega) (by omega)))))) (fun e => zIR_s (zIR_s (zIR_s (zIR_s (zIR_s (zIR_a (by omega) (by omega))))))))) zSub_nil))
        show ZW _ _ _ _ _ _ _ (67, [some (.ref 2), some (.int 3), some (.int x144), none], [], M156)
        refine w_lo dX5_readPart_67 rfl rfl rfl rfl ?_
        refine w_iv dX5_readPart_68 rfl rfl (As := []) rfl rfl hJ159.1.1 zs_2 (Nat.le_of_ble_eq_true rfl) ?_
        refine ZV.imp (k_1289 hN hJ159.1) ?_
        rintro _ ⟨M160, rfl, hJ161, hq162⟩
        have hJ163 := zJ_trans hJ159 hJ161 (zSub_cons (fun _ _ h h' hk => zIR_s (zIR_s (zIR_s (zIR_s (zIR_s (zIR_s (zIR_e (by omega) (by omega) hk))))))) zSub_nil)
        show ZW _ _ _ _ _ _ _ (71, [some (.ref 2), some (.int 3), some (.int x144), none], [], M160)
        refine w_ic dX5_readPart_71 zi_1 ?_
        refine w_en dX5_readPart_72 rfl ?_
        exact ⟨_, _, rfl, (by have := zt_1; omega), (by have := zt_1; omega), hJ163, trivial⟩
      · skip
        refine w_cge_t dX5_readPart_51 (t := 73) rfl (by have := zt_7; omega) ?_
        exact ih73 M141 x144 none hJ147 (by omega) (by omega) (by have := zt_3; omega)
    · skip
      refine w_ceq_t dX5_readPart_45 (t := 73) rfl (by have := zt_m1; omega) ?_
      exact ih73 M141 x144 none hJ147 (by omega) (by omega) (by have := zt_3; omega)
  · skip
    refine w_cne_f dX5_readPart_10 (t := 38) rfl (by have := zt_4; omega) ?_
    refine w_lo dX5_readPart_13 rfl rfl rfl rfl ?_
    obtain ⟨b164, f165, h166⟩ := zd_2_8 hJ0.1
    have h167 := zDm_b h166
    refine w_gf dX5_readPart_14 rfl hJ0.1.1 zs_2 f165 ?_
    refine w_gf dX5_readPart_17 rfl hJ0.1.1 (zs_1_0 h166) (zr_1_0_15 h166 hJ0.1) ?_
    refine w_lo dX5_readPart_20 rfl rfl rfl rfl ?_
    refine w_gf dX5_readPart_21 rfl hJ0.1.1 zs_2 (zr_2_4 hJ0.1) ?_
    refine w_lo dX5_readPart_24 rfl rfl rfl rfl ?_
    refine w_gf dX5_readPart_25 rfl hJ0.1.1 zs_2 f133 ?_
    refine w_iai dX5_readPart_28 hJ0.1 zs_5 (by omega) (by omega) zu_5 ?_
    intro x171 f168 h169 h170
    refine w_iv dX5_readPart_29 rfl rfl (As := [.int x171]) rfl rfl hJ0.1.1 (zs_1_13 h166) (Nat.le_of_ble_eq_true rfl) ?_
    refine ZV.imp (k_515 (b164 + 13) (zLw_of h166) x171 hN hJ0.1) ?_
    rintro _ ⟨M172, rfl, hJ173, hq174⟩
    have hJ175 := zJ_trans hJ0 hJ173 (zSub_cons (fun _ _ h h' hk => ((zDm_or h166).elim (fun e => zIR_s (zIR_s (zIR_e (by omega) (by omega) hk))) (fun e => zIR_s (zIR_s (zIR_s (zIR_e (by omega) (by omega) hk)))))) (zSub_cons (fun _ _ h h' hk => ((zDm_or h166).elim (fun e => zIR_s (zIR_s (zIR_s (zIR_s (zIR_a (by omega) (by omega)))))) (fun e => zIR_s (zIR_s (zIR_s (zIR_s (zIR_s (zIR_a (by omega) (by omega))))))))) zSub_nil))
    show ZW _ _ _ _ _ _ _ (32, [some (.ref 2), some (.int 3), none, none], [], M172)
    refine w_lo dX5_readPart_32 rfl rfl rfl rfl ?_
    refine w_iv dX5_readPart_33 rfl rfl (As := []) rfl rfl hJ175.1.1 zs_2 (Nat.le_of_ble_eq_true rfl) ?_
    refine ZV.imp (k_1289 hN hJ175.1) ?_
    rintro _ ⟨M176, rfl, hJ177, hq178⟩
    have hJ179 := zJ_trans hJ175 hJ177 (zSub_cons (fun _ _ h h' hk => zIR_s (zIR_s (zIR_s (zIR_s (zIR_s (zIR_s (zIR_e (by omega) (by omega) hk))))))) zSub_nil)
    show ZW _ _ _ _ _ _ _ (36, [some (.ref 2), some (.int 3), none, none], [], M176)
    refine w_ic dX5_readPart_36 zi_1 ?_
    refine w_en dX5_readPart_37 rfl ?_
    exact ⟨_, _, rfl, (by have := zt_1; omega), (by have := zt_1; omega), hJ179, trivial⟩
set_option maxRecDepth 100000 in
theorem k_1297_c3 {X : List Int32} {d N : Nat} {M0 : zM}  (hN : N ≤ 600) (hB0 : zB N M0) : ZV X (d + 13) 1297 [.ref 2, .int 3] M0 (zRI N [(2, 3, 0), (2, 3, 1), (20, 21, 1), (41, 42, 1), (21, 22, 1000), (42, 43, 1000), (2, 3, 7)] M0 (0) (1) (fun _ _ => True)) := by
  have hJ0 : zJ N [(2, 3, 0), (2, 3, 1), (20, 21, 1), (41, 42, 1), (21, 22, 1000), (42, 43, 1000), (2, 3, 7)] M0 M0 := zJ_refl hB0
  refine ZV.of (ini := false) rfl (Nat.le_of_ble_eq_true rfl) (by decide +kernel) ?_
  have main : ∀ n : Nat,
      (∀ (M : zM) (v4_2 : Int32) (v4_3 : Int32) (o4_4 : Option Value) (o4_5 : Option Value), zJ N [(2, 3, 0), (2, 3, 1), (20, 21, 1), (41, 42, 1), (21, 22, 1000), (42, 43, 1000), (2, 3, 7)] M0 M → ((-13 : Int) ≤ v4_2.toInt) → (v4_2.toInt ≤ 0) → ((0 : Int) ≤ v4_3.toInt) → (v4_3.toInt ≤ 1601) → 12832 * (1601 - v4_3.toInt) + 12830 < (n : Int) → ZW X (d + 12) 5 false (some .boolean) cX5_readSum (zRI N [(2, 3, 0), (2, 3, 1), (20, 21, 1), (41, 42, 1), (21, 22, 1000), (42, 43, 1000), (2, 3, 7)] M0 (0) (1) (fun _ _ => True)) (4, [some (.ref 2), some (.int 3), some (.int v4_2), some (.int v4_3), o4_4, o4_5], [], M)) ∧
      (∀ (M : zM) (v17_2 : Int32) (v17_3 : Int32) (v17_4 : Int32) (v17_5 : Int32), zJ N [(2, 3, 0), (2, 3, 1), (20, 21, 1), (41, 42, 1), (21, 22, 1000), (42, 43, 1000), (2, 3, 7)] M0 M → ((-2147483648 : Int) ≤ v17_2.toInt) → (v17_2.toInt ≤ 0) → ((0 : Int) ≤ v17_3.toInt) → (v17_3.toInt ≤ 1600) → ((-11 : Int) ≤ v17_4.toInt) → (v17_4.toInt ≤ 0) → ((0 : Int) ≤ v17_5.toInt) → (v17_5.toInt ≤ 1601) → 12832 * (1601 - v17_3.toInt) + 8 * (1601 - v17_5.toInt) + 5 < (n : Int) → ZW X (d + 12) 5 false (some .boolean) cX5_readSum (zRI N [(2, 3, 0), (2, 3, 1), (20, 21, 1), (41, 42, 1), (21, 22, 1000), (42, 43, 1000), (2, 3, 7)] M0 (0) (1) (fun _ _ => True)) (17, [some (.ref 2), some (.int 3), some (.int v17_2), some (.int v17_3), some (.int v17_4), some (.int v17_5)], [], M)) ∧
      (∀ (M : zM) (v52_2 : Int32) (v52_3 : Int32) (u52_4 : Int32) (v52_5 : Int32), zJ N [(2, 3, 0), (2, 3, 1), (20, 21, 1), (41, 42, 1), (21, 22, 1000), (42, 43, 1000), (2, 3, 7)] M0 M → ((-2147483648 : Int) ≤ v52_2.toInt) → (v52_2.toInt ≤ 0) → ((0 : Int) ≤ v52_3.toInt) → (v52_3.toInt ≤ 1600) → ((0 : Int) ≤ v52_5.toInt) → (v52_5.toInt ≤ 1600) → 12832 * (1601 - v52_3.toInt) + 8 * (1601 - v52_5.toInt) + 4 < (n : Int) → ZW X (d + 12) 5 false (some .boolean) cX5_readSum (zRI N [(2, 3, 0), (2, 3, 1), (20, 21, 1), (41, 42, 1), (21, 22, 1000), (42, 43, 1000), (2, 3, 7)] M0 (0) (1) (fun _ _ => True)) (52, [some (.ref 2), some (.int 3), some (.int v52_2), some (.int v52_3), some (.int u52_4), some (.int v52_5)], [], M)) ∧
      (∀ (M : zM) (v95_2 : Int32) (v95_3 : Int32) (u95_4 : Int32) (v95_5 : Int32) (s95_0 : Int32), zJ N [(2, 3, 0), (2, 3, 1), (20, 21, 1), (41, 42, 1), (21, 22, 1000), (42, 43, 1000), (2, 3, 7)] M0 M → ((-2147483648 : Int) ≤ v95_2.toInt) → (v95_2.toInt ≤ 0) → ((0 : Int) ≤ v95_3.toInt) → (v95_3.toInt ≤ 1600) → ((0 : Int) ≤ v95_5.toInt) → (v95_5.toInt ≤ 1600) → ((-11 : Int) ≤ s95_0.toInt) → (s95_0.toInt ≤ 0) → 12832 * (1601 - v95_3.toInt) + 8 * (1601 - v95_5.toInt) + 3 < (n : Int) → ZW X (d + 12) 5 false (some .boolean) cX5_readSum (zRI N [(2, 3, 0), (2, 3, 1), (20, 21, 1), (41, 42, 1), (21, 22, 1000), (42, 43, 1000), (2, 3, 7)] M0 (0) (1) (fun _ _ => True)) (95, [some (.ref 2), some (.int 3), some (.int v95_2), some (.int v95_3), some (.int u95_4), some (.int v95_5)], [.int s95_0], M)) ∧
      (∀ (M : zM) (v115_2 : Int32) (v115_3 : Int32) (u115_4 : Int32) (u115_5 : Int32), zJ N [(2, 3, 0), (2, 3, 1), (20, 21, 1), (41, 42, 1), (21, 22, 1000), (42, 43, 1000), (2, 3, 7)] M0 M → ((-2147483648 : Int) ≤ v115_2.toInt) → (v115_2.toInt ≤ 0) → ((0 : Int) ≤ v115_3.toInt) → (v115_3.toInt ≤ 1600) → 12832 * (1601 - v115_3.toInt) + 2 < (n : Int) → ZW X (d + 12) 5 false (some .boolean) cX5_readSum (zRI N [(2, 3, 0), (2, 3, 1), (20, 21, 1), (41, 42, 1), (21, 22, 1000), (42, 43, 1000), (2, 3, 7)] M0 (0) (1) (fun _ _ => True)) (115, [some (.ref 2), some (.int 3), some (.int v115_2), some (.int v115_3), some (.int u115_4), some (.int u115_5)], [], M)) ∧
      (∀ (M : zM) (u130_2 : Int32) (v130_3 : Int32) (u130_4 : Int32) (u130_5 : Int32), zJ N [(2, 3, 0), (2, 3, 1), (20, 21, 1), (41, 42, 1), (21, 22, 1000), (42, 43, 1000), (2, 3, 7)] M0 M → ((0 : Int) ≤ v130_3.toInt) → (v130_3.toInt ≤ 1600) → 12832 * (1601 - v130_3.toInt) + 1 < (n : Int) → ZW X (d + 12) 5 false (some .boolean) cX5_readSum (zRI N [(2, 3, 0), (2, 3, 1), (20, 21, 1), (41, 42, 1), (21, 22, 1000), (42, 43, 1000), (2, 3, 7)] M0 (0) (1) (fun _ _ => True)) (130, [some (.ref 2), some (.int 3), some (.int u130_2), some (.int v130_3), some (.int u130_4), some (.int u130_5)], [], M)) := by
    intro n
    induction n with
    | zero =>
      exact ⟨(fun M v4_2 v4_3 o4_4 o4_5 hJ v4_20 v4_21 v4_30 v4_31 hn => absurd hn (by omega)), (fun M v17_2 v17_3 v17_4 v17_5 hJ v17_20 v17_21 v17_30 v17_31 v17_40 v17_41 v17_50 v17_51 hn => absurd hn (by omega)), (fun M v52_2 v52_3 u52_4 v52_5 hJ v52_20 v52_21 v52_30 v52_31 v52_50 v52_51 hn => absurd hn (by omega)), (fun M v95_2 v95_3 u95_4 v95_5 s95_0 hJ v95_20 v95_21 v95_30 v95_31 v95_50 v95_51 s95_00 s95_01 hn => absurd hn (by omega)), (fun M v115_2 v115_3 u115_4 u115_5 hJ v115_20 v115_21 v115_30 v115_31 hn => absurd hn (by omega)), (fun M u130_2 v130_3 u130_4 u130_5 hJ v130_30 v130_31 hn => absurd hn (by omega))⟩
    | succ n ih =>
      obtain ⟨ih4, ih17, ih52, ih95, ih115, ih130⟩ := ih
      refine ⟨?_, ?_, ?_, ?_, ?_, ?_⟩
      · intro M v4_2 v4_3 o4_4 o4_5 hJ v4_20 v4_21 v4_30 v4_31 hn
        refine w_lo dX5_readSum_4 rfl rfl rfl rfl ?_
        refine w_si dX5_readSum_5 (c := 1600) (by decide) ?_
        rcases zcut (1600 : Int) v4_3.toInt with h1 | h1
        · skip
          refine w_cgt_t dX5_readSum_8 (t := 177) rfl (by have := zt_1600; omega) ?_
          refine w_ic dX5_readSum_177 zi_1 ?_
          refine w_en dX5_readSum_178 rfl ?_
          exact ⟨_, _, rfl, (by have := zt_1; omega), (by have := zt_1; omega), hJ, trivial⟩
        · skip
          refine w_cgt_f dX5_readSum_8 (t := 177) rfl (by have := zt_1600; omega) ?_
          refine w_ic dX5_readSum_11 zi_0 ?_
          refine w_lo (ml' := [some (.ref 2), some (.int 3), some (.int v4_2), some (.int v4_3), some (.int 0), o4_5]) dX5_readSum_12 rfl rfl rfl rfl ?_
          refine w_ic dX5_readSum_14 zi_0 ?_
          refine w_lo (ml' := [some (.ref 2), some (.int 3), some (.int v4_2), some (.int v4_3), some (.int 0), some (.int 0)]) dX5_readSum_15 rfl rfl rfl rfl ?_
          exact ih17 M v4_2 v4_3 0 0 hJ (zbot _) (by omega) (by omega) (by omega) (by have := zt_0; omega) (by have := zt_0; omega) (by have := zt_0; omega) (by have := zt_0; omega) (by have := zt_3; have := zt_0; omega)
      · intro M v17_2 v17_3 v17_4 v17_5 hJ v17_20 v17_21 v17_30 v17_31 v17_40 v17_41 v17_50 v17_51 hn
        refine w_lo dX5_readSum_17 rfl rfl rfl rfl ?_
        refine w_si dX5_readSum_19 (c := 1600) (by decide) ?_
        rcases zcut (1600 : Int) v17_5.toInt with h2 | h2
        · skip
          refine w_cgt_t dX5_readSum_22 (t := 115) rfl (by have := zt_1600; omega) ?_
          exact ih115 M v17_2 v17_3 v17_4 v17_5 hJ (zbot _) (by omega) (by omega) (by omega) (by have := zt_3; omega)
        · skip
          refine w_cgt_f dX5_readSum_22 (t := 115) rfl (by have := zt_1600; omega) ?_
          refine w_lo dX5_readSum_25 rfl rfl rfl rfl ?_
          refine w_lo dX5_readSum_26 rfl rfl rfl rfl ?_
          refine w_iv dX5_readSum_27 rfl rfl (As := [.int 3]) rfl rfl hJ.1.1 zs_2 (Nat.le_of_ble_eq_true rfl) ?_
          refine ZV.imp (k_1298_c3 hN hJ.1) ?_
          rintro _ ⟨x6, M3, rfl, h7, h8, hJ4, hq5⟩
          have hJ9 := zJ_trans hJ hJ4 (zSub_cons (fun _ _ h h' hk => zIR_e (by omega) (by omega) hk) (zSub_cons (fun _ _ h h' hk => zIR_s (zIR_e (by omega) (by omega) hk)) (zSub_cons (fun _ _ h h' hk => zIR_s (zIR_s (zIR_e (by omega) (by omega) hk))) (zSub_cons (fun _ _ h h' hk => zIR_s (zIR_s (zIR_s (zIR_e (by omega) (by omega) hk)))) (zSub_cons (fun _ _ h h' hk => zIR_s (zIR_s (zIR_s (zIR_s (zIR_a (by omega) (by omega)))))) (zSub_cons (fun _ _ h h' hk => zIR_s (zIR_s (zIR_s (zIR_s (zIR_s (zIR_a (by omega) (by omega))))))) (zSub_cons (fun _ _ h h' hk => zIR_s (zIR_s (zIR_s (zIR_s (zIR_s (zIR_s (zIR_e (by omega) (by omega) hk))))))) zSub_nil)))))))
          show ZW _ _ _ _ _ _ _ (30, [some (.ref 2), some (.int 3), some (.int v17_2), some (.int v17_3), some (.int v17_4), some (.int v17_5)], [.int x6], M3)
          rcases Int.decEq x6.toInt (0 : Int) with h10 | h10
          · skip
            refine w_ine_t dX5_readSum_30 (t := 35) rfl (by omega) ?_
            refine w_lo dX5_readSum_35 rfl rfl rfl rfl ?_
            rcases Int.decEq v17_4.toInt (0 : Int) with h11 | h11
            · skip
              refine w_ieq_f dX5_readSum_37 (t := 52) rfl (by omega) ?_
              refine w_lo dX5_readSum_40 rfl rfl rfl rfl ?_
              obtain ⟨b12, f13, h14⟩ := zd_2_8 hJ9.1
              have h15 := zDm_b h14
              refine w_gf dX5_readSum_41 rfl hJ9.1.1 zs_2 f13 ?_
              refine w_gf dX5_readSum_44 rfl hJ9.1.1 (zs_1_0 h14) (zr_1_0_15 h14 hJ9.1) ?_
              refine w_lo dX5_readSum_47 rfl rfl rfl rfl ?_
              refine w_iv dX5_readSum_49 rfl rfl (As := [.int v17_4]) rfl rfl hJ9.1.1 (zs_1_13 h14) (Nat.le_of_ble_eq_true rfl) ?_
              refine ZV.imp (k_515 (b12 + 13) (zLw_of h14) v17_4 hN hJ9.1) ?_
              rintro _ ⟨M16, rfl, hJ17, hq18⟩
              have hJ19 := zJ_trans hJ9 hJ17 (zSub_cons (fun _ _ h h' hk => ((zDm_or h14).elim (fun e => zIR_s (zIR_s (zIR_e (by omega) (by omega) hk))) (fun e => zIR_s (zIR_s (zIR_s (zIR_e (by omega) (by omega) hk)))))) (zSub_cons (fun _ _ h h' hk => ((zDm_or h14).elim (fun e => zIR_s (zIR_s (zIR_s (zIR_s (zIR_a (by omega) (by omega)))))) (fun e => zIR_s (zIR_s (zIR_s (zIR_s (zIR_s (zIR_a (by omega) (by omega))))))))) zSub_nil))
              show ZW _ _ _ _ _ _ _ (52, [some (.ref 2), some (.int 3), some (.int v17_2), some (.int v17_3), some (.int v17_4), some (.int v17_5)], [], M16)
              exact ih52 M16 v17_2 v17_3 v17_4 v17_5 hJ19 (zbot _) (by omega) (by omega) (by omega) (by omega) (by omega) (by have := zt_3; omega)
            · skip
              refine w_ieq_t dX5_readSum_37 (t := 52) rfl (by omega) ?_
              exact ih52 M3 v17_2 v17_3 v17_4 v17_5 hJ9 (zbot _) (by omega) (by omega) (by omega) (by omega) (by omega) (by have := zt_3; omega)
          · skip
            refine w_ine_f dX5_readSum_30 (t := 35) rfl (by omega) ?_
            refine w_ic dX5_readSum_33 zi_0 ?_
            refine w_en dX5_readSum_34 rfl ?_
            exact ⟨_, _, rfl, (by have := zt_0; omega), (by have := zt_0; omega), hJ9, trivial⟩
      · intro M v52_2 v52_3 u52_4 v52_5 hJ v52_20 v52_21 v52_30 v52_31 v52_50 v52_51 hn
        refine w_lo dX5_readSum_52 rfl rfl rfl rfl ?_
        refine w_bi dX5_readSum_53 (c := 42) (by decide) ?_
        refine w_iv dX5_readSum_55 rfl rfl (As := [.int 42]) rfl rfl hJ.1.1 zs_2 (Nat.le_of_ble_eq_true rfl) ?_
        refine ZV.imp (k_1299 42 (by have := zt_42; omega) (by have := zt_42; omega) hN hJ.1) ?_
        rintro _ ⟨x23, M20, rfl, h24, h25, hJ21, hq22⟩
        have hJ26 := zJ_trans hJ hJ21 zSub_nil
        show ZW _ _ _ _ _ _ _ (58, [some (.ref 2), some (.int 3), some (.int v52_2), some (.int v52_3), some (.int u52_4), some (.int v52_5)], [.int x23], M20)
        rcases Int.decEq x23.toInt (0 : Int) with h27 | h27
        · skip
          refine w_ieq_f dX5_readSum_58 (t := 66) rfl (by omega) ?_
          refine w_bi dX5_readSum_61 (c := (-9)) (by decide) ?_
          refine w_gt dX5_readSum_63 (t := 95) rfl ?_
          exact ih95 M20 v52_2 v52_3 u52_4 v52_5 (-9) hJ26 (zbot _) (by omega) (by omega) (by omega) (by omega) (by omega) (by have := zt_m9; omega) (by have := zt_m9; omega) (by have := zt_3; have := zt_m9; omega)
        · skip
          refine w_ieq_t dX5_readSum_58 (t := 66) rfl (by omega) ?_
          refine w_lo dX5_readSum_66 rfl rfl rfl rfl ?_
          refine w_bi dX5_readSum_67 (c := 47) (by decide) ?_
          refine w_iv dX5_readSum_69 rfl rfl (As := [.int 47]) rfl rfl hJ26.1.1 zs_2 (Nat.le_of_ble_eq_true rfl) ?_
          refine ZV.imp (k_1299 47 (by have := zt_47; omega) (by have := zt_47; omega) hN hJ26.1) ?_
          rintro _ ⟨x31, M28, rfl, h32, h33, hJ29, hq30⟩
          have hJ34 := zJ_trans hJ26 hJ29 zSub_nil
          show ZW _ _ _ _ _ _ _ (72, [some (.ref 2), some (.int 3), some (.int v52_2), some (.int v52_3), some (.int u52_4), some (.int v52_5)], [.int x31], M28)
          rcases Int.decEq x31.toInt (0 : Int) with h35 | h35
          · skip
            refine w_ieq_f dX5_readSum_72 (t := 80) rfl (by omega) ?_
            refine w_bi dX5_readSum_75 (c := (-10)) (by decide) ?_
            refine w_gt dX5_readSum_77 (t := 95) rfl ?_
            exact ih95 M28 v52_2 v52_3 u52_4 v52_5 (-10) hJ34 (zbot _) (by omega) (by omega) (by omega) (by omega) (by omega) (by have := zt_m10; omega) (by have := zt_m10; omega) (by have := zt_3; have := zt_m10; omega)
          · skip
            refine w_ieq_t dX5_readSum_72 (t := 80) rfl (by omega) ?_
            refine w_lo dX5_readSum_80 rfl rfl rfl rfl ?_
            refine w_bi dX5_readSum_81 (c := 37) (by decide) ?_
            refine w_iv dX5_readSum_83 rfl rfl (As := [.int 37]) rfl rfl hJ34.1.1 zs_2 (Nat.le_of_ble_eq_true rfl) ?_
            refine ZV.imp (k_1299 37 (by have := zt_37; omega) (by have := zt_37; omega) hN hJ34.1) ?_
            rintro _ ⟨x39, M36, rfl, h40, h41, hJ37, hq38⟩
            have hJ42 := zJ_trans hJ34 hJ37 zSub_nil
            show ZW _ _ _ _ _ _ _ (86, [some (.ref 2), some (.int 3), some (.int v52_2), some (.int v52_3), some (.int u52_4), some (.int v52_5)], [.int x39], M36)
            rcases Int.decEq x39.toInt (0 : Int) with h43 | h43
            · skip
              refine w_ieq_f dX5_readSum_86 (t := 94) rfl (by omega) ?_
              refine w_bi dX5_readSum_89 (c := (-11)) (by decide) ?_
              refine w_gt dX5_readSum_91 (t := 95) rfl ?_
              exact ih95 M36 v52_2 v52_3 u52_4 v52_5 (-11) hJ42 (zbot _) (by omega) (by omega) (by omega) (by omega) (by omega) (by have := zt_m11; omega) (by have := zt_m11; omega) (by have := zt_3; have := zt_m11; omega)
            · skip
              refine w_ieq_t dX5_readSum_86 (t := 94) rfl (by omega) ?_
              refine w_ic dX5_readSum_94 zi_0 ?_
              exact ih95 M36 v52_2 v52_3 u52_4 v52_5 0 hJ42 (zbot _) (by omega) (by omega) (by omega) (by omega) (by omega) (by have := zt_0; omega) (by have := zt_0; omega) (by have := zt_3; have := zt_0; omega)
      · intro M v95_2 v95_3 u95_4 v95_5 s95_0 hJ v95_20 v95_21 v95_30 v95_31 v95_50 v95_51 s95_00 s95_01 hn
        refine w_lo (ml' := [some (.ref 2), some (.int 3), some (.int v95_2), some (.int v95_3), some (.int s95_0), some (.int v95_5)]) dX5_readSum_95 rfl rfl rfl rfl ?_
        refine w_lo dX5_readSum_97 rfl rfl rfl rfl ?_
        rcases Int.decEq s95_0.toInt (0 : Int) with h44 | h44
        · skip
          refine w_ine_t dX5_readSum_99 (t := 105) rfl (by omega) ?_
          refine w_lo dX5_readSum_105 rfl rfl rfl rfl ?_
          refine w_iv dX5_readSum_106 rfl rfl (As := []) rfl rfl hJ.1.1 zs_2 (Nat.le_of_ble_eq_true rfl) ?_
          refine ZV.imp (k_1289 hN hJ.1) ?_
          rintro _ ⟨M45, rfl, hJ46, hq47⟩
          have hJ48 := zJ_trans hJ hJ46 (zSub_cons (fun _ _ h h' hk => zIR_s (zIR_s (zIR_s (zIR_s (zIR_s (zIR_s (zIR_e (by omega) (by omega) hk))))))) zSub_nil)
          show ZW _ _ _ _ _ _ _ (109, [some (.ref 2), some (.int 3), some (.int v95_2), some (.int v95_3), some (.int s95_0), some (.int v95_5)], [], M45)
          refine w_inc (kk := 5) dX5_readSum_109 rfl (m := 1) (by decide) (by omega) ?_
          intro x49 h50
          refine ⟨_, rfl, ?_⟩
          show ZW _ _ _ _ _ _ _ (112, [some (.ref 2), some (.int 3), some (.int v95_2), some (.int v95_3), some (.int s95_0), some (.int x49)], [], M45)
          refine w_gt dX5_readSum_112 (t := 17) rfl ?_
          exact ih17 M45 v95_2 v95_3 s95_0 x49 hJ48 (zbot _) (by omega) (by omega) (by omega) (by omega) (by omega) (by omega) (by omega) (by have := zt_3; omega)
        · skip
          refine w_ine_f dX5_readSum_99 (t := 105) rfl (by omega) ?_
          refine w_gt dX5_readSum_102 (t := 115) rfl ?_
          exact ih115 M v95_2 v95_3 s95_0 v95_5 hJ (zbot _) (by omega) (by omega) (by omega) (by have := zt_3; omega)
      · intro M v115_2 v115_3 u115_4 u115_5 hJ v115_20 v115_21 v115_30 v115_31 hn
        refine w_lo dX5_readSum_115 rfl rfl rfl rfl ?_
        rcases Int.decEq v115_2.toInt (0 : Int) with h51 | h51
        · skip
          refine w_ieq_f dX5_readSum_116 (t := 130) rfl (by omega) ?_
          refine w_lo dX5_readSum_119 rfl rfl rfl rfl ?_
          obtain ⟨b52, f53, h54⟩ := zd_2_8 hJ.1
          have h55 := zDm_b h54
          refine w_gf dX5_readSum_120 rfl hJ.1.1 zs_2 f53 ?_
          refine w_gf dX5_readSum_123 rfl hJ.1.1 (zs_1_0 h54) (zr_1_0_15 h54 hJ.1) ?_
          refine w_lo dX5_readSum_126 rfl rfl rfl rfl ?_
          refine w_iv dX5_readSum_127 rfl rfl (As := [.int v115_2]) rfl rfl hJ.1.1 (zs_1_13 h54) (Nat.le_of_ble_eq_true rfl) ?_
          refine ZV.imp (k_515 (b52 + 13) (zLw_of h54) v115_2 hN hJ.1) ?_
          rintro _ ⟨M56, rfl, hJ57, hq58⟩
          have hJ59 := zJ_trans hJ hJ57 (zSub_cons (fun _ _ h h' hk => ((zDm_or h54).elim (fun e => zIR_s (zIR_s (zIR_e (by omega) (by omega) hk))) (fun e => zIR_s (zIR_s (zIR_s (zIR_e (by omega) (by omega) hk)))))) (zSub_cons (fun _ _ h h' hk => ((zDm_or h54).elim (fun e => zIR_s (zIR_s (zIR_s (zIR_s (zIR_a (by omega) (by omega)))))) (fun e => zIR_s (zIR_s (zIR_s (zIR_s (zIR_s (zIR_a (by omega) (by omega))))))))) zSub_nil))
          show ZW _ _ _ _ _ _ _ (130, [some (.ref 2), some (.int 3), some (.int v115_2), some (.int v115_3), some (.int u115_4), some (.int u115_5)], [], M56)
          exact ih130 M56 v115_2 v115_3 u115_4 u115_5 hJ59 (by omega) (by omega) (by have := zt_3; omega)
        · skip
          refine w_ieq_t dX5_readSum_116 (t := 130) rfl (by omega) ?_
          exact ih130 M v115_2 v115_3 u115_4 u115_5 hJ (by omega) (by omega) (by have := zt_3; omega)
      · intro M u130_2 v130_3 u130_4 u130_5 hJ v130_30 v130_31 hn
        refine w_lo dX5_readSum_130 rfl rfl rfl rfl ?_
        refine w_bi dX5_readSum_131 (c := 43) (by decide) ?_
        refine w_iv dX5_readSum_133 rfl rfl (As := [.int 43]) rfl rfl hJ.1.1 zs_2 (Nat.le_of_ble_eq_true rfl) ?_
        refine ZV.imp (k_1299 43 (by have := zt_43; omega) (by have := zt_43; omega) hN hJ.1) ?_
        rintro _ ⟨x63, M60, rfl, h64, h65, hJ61, hq62⟩
        have hJ66 := zJ_trans hJ hJ61 zSub_nil
        show ZW _ _ _ _ _ _ _ (136, [some (.ref 2), some (.int 3), some (.int u130_2), some (.int v130_3), some (.int u130_4), some (.int u130_5)], [.int x63], M60)
        rcases Int.decEq x63.toInt (0 : Int) with h67 | h67
        · skip
          refine w_ieq_f dX5_readSum_136 (t := 144) rfl (by omega) ?_
          refine w_bi dX5_readSum_139 (c := (-12)) (by decide) ?_
          refine w_gt dX5_readSum_141 (t := 159) rfl ?_
          refine w_lo (ml' := [some (.ref 2), some (.int 3), some (.int (-12)), some (.int v130_3), some (.int u130_4), some (.int u130_5)]) dX5_readSum_159 rfl rfl rfl rfl ?_
          refine w_lo dX5_readSum_160 rfl rfl rfl rfl ?_
          refine w_ine_t dX5_readSum_161 (t := 167) rfl (by have := zt_m12; omega) ?_
          refine w_lo dX5_readSum_167 rfl rfl rfl rfl ?_
          refine w_iv dX5_readSum_168 rfl rfl (As := []) rfl rfl hJ66.1.1 zs_2 (Nat.le_of_ble_eq_true rfl) ?_
          refine ZV.imp (k_1289 hN hJ66.1) ?_
          rintro _ ⟨M68, rfl, hJ69, hq70⟩
          have hJ71 := zJ_trans hJ66 hJ69 (zSub_cons (fun _ _ h h' hk => zIR_s (zIR_s (zIR_s (zIR_s (zIR_s (zIR_s (zIR_e (by omega) (by omega) hk))))))) zSub_nil)
          show ZW _ _ _ _ _ _ _ (171, [some (.ref 2), some (.int 3), some (.int (-12)), some (.int v130_3), some (.int u130_4), some (.int u130_5)], [], M68)
          refine w_inc (kk := 3) dX5_readSum_171 rfl (m := 1) (by decide) (by omega) ?_
          intro x72 h73
          refine ⟨_, rfl, ?_⟩
          show ZW _ _ _ _ _ _ _ (174, [some (.ref 2), some (.int 3), some (.int (-12)), some (.int x72), some (.int u130_4), some (.int u130_5)], [], M68)
          refine w_gt dX5_readSum_174 (t := 4) rfl ?_
          exact ih4 M68 (-12) x72 (some (.int u130_4)) (some (.int u130_5)) hJ71 (by have := zt_m12; omega) (by have := zt_m12; omega) (by omega) (by omega) (by have := zt_3; have := zt_m12; omega)
        · skip
          refine w_ieq_t dX5_readSum_136 (t := 144) rfl (by omega) ?_
          refine w_lo dX5_readSum_144 rfl rfl rfl rfl ?_
          refine w_bi dX5_readSum_145 (c := 45) (by decide) ?_
          refine w_iv dX5_readSum_147 rfl rfl (As := [.int 45]) rfl rfl hJ66.1.1 zs_2 (Nat.le_of_ble_eq_true rfl) ?_
          refine ZV.imp (k_1299 45 (by have := zt_45; omega) (by have := zt_45; omega) hN hJ66.1) ?_
          rintro _ ⟨x77, M74, rfl, h78, h79, hJ75, hq76⟩
          have hJ80 := zJ_trans hJ66 hJ75 zSub_nil
          show ZW _ _ _ _ _ _ _ (150, [some (.ref 2), some (.int 3), some (.int u130_2), some (.int v130_3), some (.int u130_4), some (.int u130_5)], [.int x77], M74)
          rcases Int.decEq x77.toInt (0 : Int) with h81 | h81
          · skip
            refine w_ieq_f dX5_readSum_150 (t := 158) rfl (by omega) ?_
            refine w_bi dX5_readSum_153 (c := (-13)) (by decide) ?_
            refine w_gt dX5_readSum_155 (t := 159) rfl ?_
            refine w_lo (ml' := [some (.ref 2), some (.int 3), some (.int (-13)), some (.int v130_3), some (.int u130_4), some (.int u130_5)]) dX5_readSum_159 rfl rfl rfl rfl ?_
            refine w_lo dX5_readSum_160 rfl rfl rfl rfl ?_
            refine w_ine_t dX5_readSum_161 (t := 167) rfl (by have := zt_m13; omega) ?_
            refine w_lo dX5_readSum_167 rfl rfl rfl rfl ?_
            refine w_iv dX5_readSum_168 rfl rfl (As := []) rfl rfl hJ80.1.1 zs_2 (Nat.le_of_ble_eq_true rfl) ?_
            refine ZV.imp (k_1289 hN hJ80.1) ?_
            rintro _ ⟨M82, rfl, hJ83, hq84⟩
            have hJ85 := zJ_trans hJ80 hJ83 (zSub_cons (fun _ _ h h' hk => zIR_s (zIR_s (zIR_s (zIR_s (zIR_s (zIR_s (zIR_e (by omega) (by omega) hk))))))) zSub_nil)
            show ZW _ _ _ _ _ _ _ (171, [some (.ref 2), some (.int 3), some (.int (-13)), some (.int v130_3), some (.int u130_4), some (.int u130_5)], [], M82)
            refine w_inc (kk := 3) dX5_readSum_171 rfl (m := 1) (by decide) (by omega) ?_
            intro x86 h87
            refine ⟨_, rfl, ?_⟩
            show ZW _ _ _ _ _ _ _ (174, [some (.ref 2), some (.int 3), some (.int (-13)), some (.int x86), some (.int u130_4), some (.int u130_5)], [], M82)
            refine w_gt dX5_readSum_174 (t := 4) rfl ?_
            exact ih4 M82 (-13) x86 (some (.int u130_4)) (some (.int u130_5)) hJ85 (by have := zt_m13; omega) (by have := zt_m13; omega) (by omega) (by omega) (by have := zt_3; have := zt_m13; omega)
          · skip
            refine w_ieq_t dX5_readSum_150 (t := 158) rfl (by omega) ?_
            refine w_ic dX5_readSum_158 zi_0 ?_
            refine w_lo (ml' := [some (.ref 2), some (.int 3), some (.int 0), some (.int v130_3), some (.int u130_4), some (.int u130_5)]) dX5_readSum_159 rfl rfl rfl rfl ?_
            refine w_lo dX5_readSum_160 rfl rfl rfl rfl ?_
            refine w_ine_f dX5_readSum_161 (t := 167) rfl (by have := zt_0; omega) ?_
            refine w_gt dX5_readSum_164 (t := 177) rfl ?_
            refine w_ic dX5_readSum_177 zi_1 ?_
            refine w_en dX5_readSum_178 rfl ?_
            exact ⟨_, _, rfl, (by have := zt_1; omega), (by have := zt_1; omega), hJ80, trivial⟩
  obtain ⟨ih4, ih17, ih52, ih95, ih115, ih130⟩ := main 20582531
  show ZW _ _ _ _ _ _ _ (0, [some (.ref 2), some (.int 3), none, none, none, none], [], M0)
  refine w_ic dX5_readSum_0 zi_0 ?_
  refine w_lo (ml' := [some (.ref 2), some (.int 3), some (.int 0), none, none, none]) dX5_readSum_1 rfl rfl rfl rfl ?_
  refine w_ic dX5_readSum_2 zi_0 ?_
  refine w_lo (ml' := [some (.ref 2), some (.int 3), some (.int 0), some (.int 0), none, none]) dX5_readSum_3 rfl rfl rfl rfl ?_
  exact ih4 M0 0 0 none none hJ0 (by have := zt_0; omega) (by have := zt_0; omega) (by have := zt_0; omega) (by have := zt_0; omega) (by have := zt_3; have := zt_0; omega)
set_option maxRecDepth 100000 in
theorem k_1298_c2 {X : List Int32} {d N : Nat} {M0 : zM}  (hN : N ≤ 600) (hB0 : zB N M0) : ZV X (d + 14) 1298 [.ref 2, .int 2] M0 (zRI N [(2, 3, 0), (2, 3, 1), (20, 21, 1), (41, 42, 1), (21, 22, 1000), (42, 43, 1000), (2, 3, 7)] M0 (0) (1) (fun _ _ => True)) := by
  have hJ0 : zJ N [(2, 3, 0), (2, 3, 1), (20, 21, 1), (41, 42, 1), (21, 22, 1000), (42, 43, 1000), (2, 3, 7)] M0 M0 := zJ_refl hB0
  refine ZV.of (ini := false) rfl (Nat.le_of_ble_eq_true rfl) (by decide +kernel) ?_
  have main : ∀ n : Nat,
      (∀ (M : zM) (v73_2 : Int32) (o73_3 : Option Value), zJ N [(2, 3, 0), (2, 3, 1), (20, 21, 1), (41, 42, 1), (21, 22, 1000), (42, 43, 1000), (2, 3, 7)] M0 M → ((-1 : Int) ≤ v73_2.toInt) → (v73_2.toInt ≤ 26) → 3 < (n : Int) → ZW X (d + 13) 5 false (some .boolean) cX5_readPart (zRI N [(2, 3, 0), (2, 3, 1), (20, 21, 1), (41, 42, 1), (21, 22, 1000), (42, 43, 1000), (2, 3, 7)] M0 (0) (1) (fun _ _ => True)) (73, [some (.ref 2), some (.int 2), some (.int v73_2), o73_3], [], M)) ∧
      (∀ (M : zM) (v85_2 : Int32) (o85_3 : Option Value), zJ N [(2, 3, 0), (2, 3, 1), (20, 21, 1), (41, 42, 1), (21, 22, 1000), (42, 43, 1000), (2, 3, 7)] M0 M → ((25 : Int) ≤ v85_2.toInt) → (v85_2.toInt ≤ 26) → 2 < (n : Int) → ZW X (d + 13) 5 false (some .boolean) cX5_readPart (zRI N [(2, 3, 0), (2, 3, 1), (20, 21, 1), (41, 42, 1), (21, 22, 1000), (42, 43, 1000), (2, 3, 7)] M0 (0) (1) (fun _ _ => True)) (85, [some (.ref 2), some (.int 2), some (.int v85_2), o85_3], [], M)) ∧
      (∀ (M : zM) (v99_2 : Int32) (v99_3 : Int32), zJ N [(2, 3, 0), (2, 3, 1), (20, 21, 1), (41, 42, 1), (21, 22, 1000), (42, 43, 1000), (2, 3, 7)] M0 M → ((-1 : Int) ≤ v99_2.toInt) → (v99_2.toInt ≤ 26) → ((0 : Int) ≤ v99_3.toInt) → (v99_3.toInt ≤ 1) → 1 < (n : Int) → ZW X (d + 13) 5 false (some .boolean) cX5_readPart (zRI N [(2, 3, 0), (2, 3, 1), (20, 21, 1), (41, 42, 1), (21, 22, 1000), (42, 43, 1000), (2, 3, 7)] M0 (0) (1) (fun _ _ => True)) (99, [some (.ref 2), some (.int 2), some (.int v99_2), some (.int v99_3)], [], M)) := by
    intro n
    induction n with
    | zero =>
      exact ⟨(fun M v73_2 o73_3 hJ v73_20 v73_21 hn => absurd hn (by omega)), (fun M v85_2 o85_3 hJ v85_20 v85_21 hn => absurd hn (by omega)), (fun M v99_2 v99_3 hJ v99_20 v99_21 v99_30 v99_31 hn => absurd hn (by omega))⟩
    | succ n ih =>
      obtain ⟨ih73, ih85, ih99⟩ := ih
      refine ⟨?_, ?_, ?_⟩
      · intro M v73_2 o73_3 hJ v73_20 v73_21 hn
        refine w_lo dX5_readPart_73 rfl rfl rfl rfl ?_
        refine w_bi dX5_readPart_74 (c := 25) (by decide) ?_
        rcases Int.decEq v73_2.toInt (25 : Int) with h1 | h1
        · skip
          refine w_ceq_f dX5_readPart_76 (t := 85) rfl (by have := zt_25; omega) ?_
          refine w_lo dX5_readPart_79 rfl rfl rfl rfl ?_
          refine w_bi dX5_readPart_80 (c := 26) (by decide) ?_
          rcases Int.decEq v73_2.toInt (26 : Int) with h2 | h2
          · skip
            refine w_cne_t dX5_readPart_82 (t := 89) rfl (by have := zt_26; omega) ?_
            refine w_ic dX5_readPart_89 zi_0 ?_
            refine w_lo (ml' := [some (.ref 2), some (.int 2), some (.int v73_2), some (.int 0)]) dX5_readPart_90 rfl rfl rfl rfl ?_
            refine w_lo dX5_readPart_91 rfl rfl rfl rfl ?_
            refine w_ieq_t dX5_readPart_92 (t := 99) rfl (by have := zt_0; omega) ?_
            exact ih99 M v73_2 0 hJ (by omega) (by omega) (by have := zt_0; omega) (by have := zt_0; omega) (by have := zt_2; have := zt_0; omega)
          · skip
            refine w_cne_f dX5_readPart_82 (t := 89) rfl (by have := zt_26; omega) ?_
            exact ih85 M v73_2 o73_3 hJ (by omega) (by omega) (by have := zt_2; omega)
        · skip
          refine w_ceq_t dX5_readPart_76 (t := 85) rfl (by have := zt_25; omega) ?_
          exact ih85 M v73_2 o73_3 hJ (by omega) (by omega) (by have := zt_2; omega)
      · intro M v85_2 o85_3 hJ v85_20 v85_21 hn
        refine w_ic dX5_readPart_85 zi_1 ?_
        refine w_gt dX5_readPart_86 (t := 90) rfl ?_
        refine w_lo (ml' := [some (.ref 2), some (.int 2), some (.int v85_2), some (.int 1)]) dX5_readPart_90 rfl rfl rfl rfl ?_
        refine w_lo dX5_readPart_91 rfl rfl rfl rfl ?_
        refine w_ieq_f dX5_readPart_92 (t := 99) rfl (by have := zt_1; omega) ?_
        refine w_lo dX5_readPart_95 rfl rfl rfl rfl ?_
        refine w_iv dX5_readPart_96 rfl rfl (As := []) rfl rfl hJ.1.1 zs_2 (Nat.le_of_ble_eq_true rfl) ?_
        refine ZV.imp (k_1289 hN hJ.1) ?_
        rintro _ ⟨M3, rfl, hJ4, hq5⟩
        have hJ6 := zJ_trans hJ hJ4 (zSub_cons (fun _ _ h h' hk => zIR_s (zIR_s (zIR_s (zIR_s (zIR_s (zIR_s (zIR_e (by omega) (by omega) hk))))))) zSub_nil)
        show ZW _ _ _ _ _ _ _ (99, [some (.ref 2), some (.int 2), some (.int v85_2), some (.int 1)], [], M3)
        exact ih99 M3 v85_2 1 hJ6 (by omega) (by omega) (by have := zt_1; omega) (by have := zt_1; omega) (by have := zt_2; have := zt_1; omega)
      · intro M v99_2 v99_3 hJ v99_20 v99_21 v99_30 v99_31 hn
        refine w_lo dX5_readPart_99 rfl rfl rfl rfl ?_
        refine w_bi dX5_readPart_100 (c := 40) (by decide) ?_
        refine w_iv dX5_readPart_102 rfl rfl (As := [.int 40]) rfl rfl hJ.1.1 zs_2 (Nat.le_of_ble_eq_true rfl) ?_
        refine ZV.imp (k_1299 40 (by have := zt_40; omega) (by have := zt_40; omega) hN hJ.1) ?_
        rintro _ ⟨x10, M7, rfl, h11, h12, hJ8, hq9⟩
        have hJ13 := zJ_trans hJ hJ8 zSub_nil
        show ZW _ _ _ _ _ _ _ (105, [some (.ref 2), some (.int 2), some (.int v99_2), some (.int v99_3)], [.int x10], M7)
        rcases Int.decEq x10.toInt (0 : Int) with h14 | h14
        · skip
          refine w_ine_t dX5_readPart_105 (t := 114) rfl (by omega) ?_
          refine w_lo dX5_readPart_114 rfl rfl rfl rfl ?_
          refine w_bi dX5_readPart_115 (c := 8) (by decide) ?_
          refine w_clt_t dX5_readPart_117 (t := 126) rfl (by have := zt_2; have := zt_8; omega) ?_
          refine w_lo dX5_readPart_126 rfl rfl rfl rfl ?_
          refine w_iv dX5_readPart_127 rfl rfl (As := []) rfl rfl hJ13.1.1 zs_2 (Nat.le_of_ble_eq_true rfl) ?_
          refine ZV.imp (k_1289 hN hJ13.1) ?_
          rintro _ ⟨M15, rfl, hJ16, hq17⟩
          have hJ18 := zJ_trans hJ13 hJ16 (zSub_cons (fun _ _ h h' hk => zIR_s (zIR_s (zIR_s (zIR_s (zIR_s (zIR_s (zIR_e (by omega) (by omega) hk))))))) zSub_nil)
          show ZW _ _ _ _ _ _ _ (130, [some (.ref 2), some (.int 2), some (.int v99_2), some (.int v99_3)], [], M15)
          refine w_lo dX5_readPart_130 rfl rfl rfl rfl ?_
          refine w_lo dX5_readPart_131 rfl rfl rfl rfl ?_
          refine w_ic dX5_readPart_132 zi_1 ?_
          refine w_pu (st' := [.int 3, .ref 2]) dX5_readPart_133 rfl rfl ?_
          refine w_iv dX5_readPart_134 rfl rfl (As := [.int 3]) rfl rfl hJ18.1.1 zs_2 (Nat.le_of_ble_eq_true rfl) ?_
          refine ZV.imp (k_1297_c3 hN hJ18.1) ?_
          rintro _ ⟨x22, M19, rfl, h23, h24, hJ20, hq21⟩
          have hJ25 := zJ_trans hJ18 hJ20 (zSub_cons (fun _ _ h h' hk => zIR_e (by omega) (by omega) hk) (zSub_cons (fun _ _ h h' hk => zIR_s (zIR_e (by omega) (by omega) hk)) (zSub_cons (fun _ _ h h' hk => zIR_s (zIR_s (zIR_e (by omega) (by omega) hk))) (zSub_cons (fun _ _ h h' hk => zIR_s (zIR_s (zIR_s (zIR_e (by omega) (by omega) hk)))) (zSub_cons (fun _ _ h h' hk => zIR_s (zIR_s (zIR_s (zIR_s (zIR_a (by omega) (by omega)))))) (zSub_cons (fun _ _ h h' hk => zIR_s (zIR_s (zIR_s (zIR_s (zIR_s (zIR_a (by omega) (by omega))))))) (zSub_cons (fun _ _ h h' hk => zIR_s (zIR_s (zIR_s (zIR_s (zIR_s (zIR_s (zIR_e (by omega) (by omega) hk))))))) zSub_nil)))))))
          show ZW _ _ _ _ _ _ _ (137, [some (.ref 2), some (.int 2), some (.int v99_2), some (.int v99_3)], [.int x22], M19)
          rcases Int.decEq x22.toInt (0 : Int) with h26 | h26
          · skip
            refine w_ine_t dX5_readPart_137 (t := 142) rfl (by omega) ?_
            refine w_lo dX5_readPart_142 rfl rfl rfl rfl ?_
            rcases Int.decEq v99_3.toInt (0 : Int) with h27 | h27
            · skip
              refine w_ieq_f dX5_readPart_143 (t := 200) rfl (by omega) ?_
              refine w_lo dX5_readPart_146 rfl rfl rfl rfl ?_
              refine w_bi dX5_readPart_147 (c := 44) (by decide) ?_
              refine w_iv dX5_readPart_149 rfl rfl (As := [.int 44]) rfl rfl hJ25.1.1 zs_2 (Nat.le_of_ble_eq_true rfl) ?_
              refine ZV.imp (k_1299 44 (by have := zt_44; omega) (by have := zt_44; omega) hN hJ25.1) ?_
              rintro _ ⟨x31, M28, rfl, h32, h33, hJ29, hq30⟩
              have hJ34 := zJ_trans hJ25 hJ29 zSub_nil
              show ZW _ _ _ _ _ _ _ (152, [some (.ref 2), some (.int 2), some (.int v99_2), some (.int v99_3)], [.int x31], M28)
              rcases Int.decEq x31.toInt (0 : Int) with h35 | h35
              · skip
                refine w_ine_t dX5_readPart_152 (t := 161) rfl (by omega) ?_
                refine w_lo dX5_readPart_161 rfl rfl rfl rfl ?_
                refine w_iv dX5_readPart_162 rfl rfl (As := []) rfl rfl hJ34.1.1 zs_2 (Nat.le_of_ble_eq_true rfl) ?_
                refine ZV.imp (k_1289 hN hJ34.1) ?_
                rintro _ ⟨M36, rfl, hJ37, hq38⟩
                have hJ39 := zJ_trans hJ34 hJ37 (zSub_cons (fun _ _ h h' hk => zIR_s (zIR_s (zIR_s (zIR_s (zIR_s (zIR_s (zIR_e (by omega) (by omega) hk))))))) zSub_nil)
                show ZW _ _ _ _ _ _ _ (165, [some (.ref 2), some (.int 2), some (.int v99_2), some (.int v99_3)], [], M36)
                refine w_lo dX5_readPart_165 rfl rfl rfl rfl ?_
                refine w_lo dX5_readPart_166 rfl rfl rfl rfl ?_
                refine w_ic dX5_readPart_167 zi_1 ?_
                refine w_pu (st' := [.int 3, .ref 2]) dX5_readPart_168 rfl rfl ?_
                refine w_iv dX5_readPart_169 rfl rfl (As := [.int 3]) rfl rfl hJ39.1.1 zs_2 (Nat.le_of_ble_eq_true rfl) ?_
                refine ZV.imp (k_1297_c3 hN hJ39.1) ?_
                rintro _ ⟨x43, M40, rfl, h44, h45, hJ41, hq42⟩
                have hJ46 := zJ_trans hJ39 hJ41 (zSub_cons (fun _ _ h h' hk => zIR_e (by omega) (by omega) hk) (zSub_cons (fun _ _ h h' hk => zIR_s (zIR_e (by omega) (by omega) hk)) (zSub_cons (fun _ _ h h' hk => zIR_s (zIR_s (zIR_e (by omega) (by omega) hk))) (zSub_cons (fun _ _ h h' hk => zIR_s (zIR_s (zIR_s (zIR_e (by omega) (by omega) hk)))) (zSub_cons (fun _ _ h h' hk => zIR_s (zIR_s (zIR_s (zIR_s (zIR_a (by omega) (by omega)))))) (zSub_cons (fun _ _ h h' hk => zIR_s (zIR_s (zIR_s (zIR_s (zIR_s (zIR_a (by omega) (by omega))))))) (zSub_cons (fun _ _ h h' hk => zIR_s (zIR_s (zIR_s (zIR_s (zIR_s (zIR_s (zIR_e (by omega) (by omega) hk))))))) zSub_nil)))))))
                show ZW _ _ _ _ _ _ _ (172, [some (.ref 2), some (.int 2), some (.int v99_2), some (.int v99_3)], [.int x43], M40)
                rcases Int.decEq x43.toInt (0 : Int) with h47 | h47
                · skip
                  refine w_ine_t dX5_readPart_172 (t := 177) rfl (by omega) ?_
                  refine w_lo dX5_readPart_177 rfl rfl rfl rfl ?_
                  obtain ⟨b48, f49, h50⟩ := zd_2_8 hJ46.1
                  have h51 := zDm_b h50
                  refine w_gf dX5_readPart_178 rfl hJ46.1.1 zs_2 f49 ?_
                  refine w_gf dX5_readPart_181 rfl hJ46.1.1 (zs_1_0 h50) (zr_1_0_15 h50 hJ46.1) ?_
                  refine w_lo dX5_readPart_184 rfl rfl rfl rfl ?_
                  refine w_bi dX5_readPart_185 (c := 25) (by decide) ?_
                  rcases Int.decEq v99_2.toInt (25 : Int) with h52 | h52
                  · skip
                    refine w_cne_t dX5_readPart_187 (t := 195) rfl (by have := zt_25; omega) ?_
                    refine w_bi dX5_readPart_195 (c := (-20)) (by decide) ?_
                    refine w_iv dX5_readPart_197 rfl rfl (As := [.int (-20)]) rfl rfl hJ46.1.1 (zs_1_13 h50) (Nat.le_of_ble_eq_true rfl) ?_
                    refine ZV.imp (k_515 (b48 + 13) (zLw_of h50) (-20) hN hJ46.1) ?_
                    rintro _ ⟨M53, rfl, hJ54, hq55⟩
                    have hJ56 := zJ_trans hJ46 hJ54 (zSub_cons (fun _ _ h h' hk => ((zDm_or h50).elim (fun e => zIR_s (zIR_s (zIR_e (by omega) (by omega) hk))) (fun e => zIR_s (zIR_s (zIR_s (zIR_e (by omega) (by omega) hk)))))) (zSub_cons (fun _ _ h h' hk => ((zDm_or h50).elim (fun e => zIR_s (zIR_s (zIR_s (zIR_s (zIR_a (by omega) (by omega)))))) (fun e => zIR_s (zIR_s (zIR_s (zIR_s (zIR_s (zIR_a (by omega) (by omega))))))))) zSub_nil))
                    show ZW _ _ _ _ _ _ _ (200, [some (.ref 2), some (.int 2), some (.int v99_2), some (.int v99_3)], [], M53)
                    refine w_lo dX5_readPart_200 rfl rfl rfl rfl ?_
                    refine w_bi dX5_readPart_201 (c := 41) (by decide) ?_
                    refine w_iv dX5_readPart_203 rfl rfl (As := [.int 41]) rfl rfl hJ56.1.1 zs_2 (Nat.le_of_ble_eq_true rfl) ?_
                    refine ZV.imp (k_1299 41 (by have := zt_41; omega) (by have := zt_41; omega) hN hJ56.1) ?_
                    rintro _ ⟨x60, M57, rfl, h61, h62, hJ58, hq59⟩
                    have hJ63 := zJ_trans hJ56 hJ58 zSub_nil
                    show ZW _ _ _ _ _ _ _ (206, [some (.ref 2), some (.int 2), some (.int v99_2), some (.int v99_3)], [.int x60], M57)
                    rcases Int.decEq x60.toInt (0 : Int) with h64 | h64
                    · skip
                      refine w_ine_t dX5_readPart_206 (t := 215) rfl (by omega) ?_
                      refine w_lo dX5_readPart_215 rfl rfl rfl rfl ?_
                      refine w_iv dX5_readPart_216 rfl rfl (As := []) rfl rfl hJ63.1.1 zs_2 (Nat.le_of_ble_eq_true rfl) ?_
                      refine ZV.imp (k_1289 hN hJ63.1) ?_
                      rintro _ ⟨M65, rfl, hJ66, hq67⟩
                      have hJ68 := zJ_trans hJ63 hJ66 (zSub_cons (fun _ _ h h' hk => zIR_s (zIR_s (zIR_s (zIR_s (zIR_s (zIR_s (zIR_e (by omega) (by omega) hk))))))) zSub_nil)
                      show ZW _ _ _ _ _ _ _ (219, [some (.ref 2), some (.int 2), some (.int v99_2), some (.int v99_3)], [], M65)
                      refine w_ic dX5_readPart_219 zi_1 ?_
                      refine w_en dX5_readPart_220 rfl ?_
                      exact ⟨_, _, rfl, (by have := zt_1; omega), (by have := zt_1; omega), hJ68, trivial⟩
                    · skip
                      refine w_ine_f dX5_readPart_206 (t := 215) rfl (by omega) ?_
                      refine w_lo dX5_readPart_209 rfl rfl rfl rfl ?_
                      refine w_ic dX5_readPart_210 zi_1 ?_
                      refine w_iv dX5_readPart_211 rfl rfl (As := [.int 1]) rfl rfl hJ63.1.1 zs_2 (Nat.le_of_ble_eq_true rfl) ?_
                      refine ZV.imp (k_1286 1 (by have := zt_1; omega) (by have := zt_1; omega) hN hJ63.1) ?_
                      rintro _ ⟨x72, M69, rfl, h73, h74, hJ70, hq71⟩
                      have hJ75 := zJ_trans hJ63 hJ70 (zSub_cons (fun _ _ h h' hk => zIR_e (by omega) (by omega) hk) (zSub_cons (fun _ _ h h' hk => zIR_s (zIR_e (by omega) (by omega) hk)) zSub_nil))
                      show ZW _ _ _ _ _ _ _ (214, [some (.ref 2), some (.int 2), some (.int v99_2), some (.int v99_3)], [.int x72], M69)
                      refine w_eni dX5_readPart_214 rfl (znb (by omega) (by omega)) ?_
                      exact ⟨_, _, rfl, (by omega), (by omega), hJ75, trivial⟩
                  · skip
                    refine w_cne_f dX5_readPart_187 (t := 195) rfl (by have := zt_25; omega) ?_
                    refine w_bi dX5_readPart_190 (c := (-19)) (by decide) ?_
                    refine w_gt dX5_readPart_192 (t := 197) rfl ?_
                    refine w_iv dX5_readPart_197 rfl rfl (As := [.int (-19)]) rfl rfl hJ46.1.1 (zs_1_13 h50) (Nat.le_of_ble_eq_true rfl) ?_
                    refine ZV.imp (k_515 (b48 + 13) (zLw_of h50) (-19) hN hJ46.1) ?_
                    rintro _ ⟨M76, rfl, hJ77, hq78⟩
                    have hJ79 := zJ_trans hJ46 hJ77 (zSub_cons (fun _ _ h h' hk => ((zDm_or h50).elim (fun e => zIR_s (zIR_s (zIR_e (by omega) (by omega) hk))) (fun e => zIR_s (zIR_s (zIR_s (zIR_e (by omega) (by omega) hk)))))) (zSub_cons (fun _ _ h h' hk => ((zDm_or h50).elim (fun e => zIR_s (zIR_s (zIR_s (zIR_s (zIR_a (by omega) (by omega)))))) (fun e => zIR_s (zIR_s (zIR_s (zIR_s (zIR_s (zIR_a (by omega) (by omega))))))))) zSub_nil))
                    show ZW _ _ _ _ _ _ _ (200, [some (.ref 2), some (.int 2), some (.int v99_2), some (.int v99_3)], [], M76)
                    refine w_lo dX5_readPart_200 rfl rfl rfl rfl ?_
                    refine w_bi dX5_readPart_201 (c := 41) (by decide) ?_
                    refine w_iv dX5_readPart_203 rfl rfl (As := [.int 41]) rfl rfl hJ79.1.1 zs_2 (Nat.le_of_ble_eq_true rfl) ?_
                    refine ZV.imp (k_1299 41 (by have := zt_41; omega) (by have := zt_41; omega) hN hJ79.1) ?_
                    rintro _ ⟨x83, M80, rfl, h84, h85, hJ81, hq82⟩
                    have hJ86 := zJ_trans hJ79 hJ81 zSub_nil
                    show ZW _ _ _ _ _ _ _ (206, [some (.ref 2), some (.int 2), some (.int v99_2), some (.int v99_3)], [.int x83], M80)
                    rcases Int.decEq x83.toInt (0 : Int) with h87 | h87
                    · skip
                      refine w_ine_t dX5_readPart_206 (t := 215) rfl (by omega) ?_
                      refine w_lo dX5_readPart_215 rfl rfl rfl rfl ?_
                      refine w_iv dX5_readPart_216 rfl rfl (As := []) rfl rfl hJ86.1.1 zs_2 (Nat.le_of_ble_eq_true rfl) ?_
                      refine ZV.imp (k_1289 hN hJ86.1) ?_
                      rintro _ ⟨M88, rfl, hJ89, hq90⟩
                      have hJ91 := zJ_trans hJ86 hJ89 (zSub_cons (fun _ _ h h' hk => zIR_s (zIR_s (zIR_s (zIR_s (zIR_s (zIR_s (zIR_e (by omega) (by omega) hk))))))) zSub_nil)
                      show ZW _ _ _ _ _ _ _ (219, [some (.ref 2), some (.int 2), some (.int v99_2), some (.int v99_3)], [], M88)
                      refine w_ic dX5_readPart_219 zi_1 ?_
                      refine w_en dX5_readPart_220 rfl ?_
                      exact ⟨_, _, rfl, (by have := zt_1; omega), (by have := zt_1; omega), hJ91, trivial⟩
                    · skip
                      refine w_ine_f dX5_readPart_206 (t := 215) rfl (by omega) ?_
                      refine w_lo dX5_readPart_209 rfl rfl rfl rfl ?_
                      refine w_ic dX5_readPart_210 zi_1 ?_
                      refine w_iv dX5_readPart_211 rfl rfl (As := [.int 1]) rfl rfl hJ86.1.1 zs_2 (Nat.le_of_ble_eq_true rfl) ?_
                      refine ZV.imp (k_1286 1 (by have := zt_1; omega) (by have := zt_1; omega) hN hJ86.1) ?_
                      rintro _ ⟨x95, M92, rfl, h96, h97, hJ93, hq94⟩
                      have hJ98 := zJ_trans hJ86 hJ93 (zSub_cons (fun _ _ h h' hk => zIR_e (by omega) (by omega) hk) (zSub_cons (fun _ _ h h' hk => zIR_s (zIR_e (by omega) (by omega) hk)) zSub_nil))
                      show ZW _ _ _ _ _ _ _ (214, [some (.ref 2), some (.int 2), some (.int v99_2), some (.int v99_3)], [.int x95], M92)
                      refine w_eni dX5_readPart_214 rfl (znb (by omega) (by omega)) ?_
                      exact ⟨_, _, rfl, (by omega), (by omega), hJ98, trivial⟩
                · skip
                  refine w_ine_f dX5_readPart_172 (t := 177) rfl (by omega) ?_
                  refine w_ic dX5_readPart_175 zi_0 ?_
                  refine w_en dX5_readPart_176 rfl ?_
                  exact ⟨_, _, rfl, (by have := zt_0; omega), (by have := zt_0; omega), hJ46, trivial⟩
              · skip
                refine w_ine_f dX5_readPart_152 (t := 161) rfl (by omega) ?_
                refine w_lo dX5_readPart_155 rfl rfl rfl rfl ?_
                refine w_ic dX5_readPart_156 zi_1 ?_
                refine w_iv dX5_readPart_157 rfl rfl (As := [.int 1]) rfl rfl hJ34.1.1 zs_2 (Nat.le_of_ble_eq_true rfl) ?_
                refine ZV.imp (k_1286 1 (by have := zt_1; omega) (by have := zt_1; omega) hN hJ34.1) ?_
                rintro _ ⟨x102, M99, rfl, h103, h104, hJ100, hq101⟩
                have hJ105 := zJ_trans hJ34 hJ100 (zSub_cons (fun _ _ h h' hk => zIR_e (by omega) (by omega) hk) (zSub_cons (fun _ _ h h' hk => zIR_s (zIR_e (by omega) (by omega) hk)) zSub_nil))
                show ZW _ _ _ _ _ _ _ (160, [some (.ref 2), some (.int 2), some (.int v99_2), some (.int v99_3)], [.int x102], M99)
                refine w_eni dX5_readPart_160 rfl (znb (by omega) (by omega)) ?_
                exact ⟨_, _, rfl, (by omega), (by omega), hJ105, trivial⟩
            · skip
              refine w_ieq_t dX5_readPart_143 (t := 200) rfl (by omega) ?_
              refine w_lo dX5_readPart_200 rfl rfl rfl rfl ?_
              refine w_bi dX5_readPart_201 (c := 41) (by decide) ?_
              refine w_iv dX5_readPart_203 rfl rfl (As := [.int 41]) rfl rfl hJ25.1.1 zs_2 (Nat.le_of_ble_eq_true rfl) ?_
              refine ZV.imp (k_1299 41 (by have := zt_41; omega) (by have := zt_41; omega) hN hJ25.1) ?_
              rintro _ ⟨x109, M106, rfl, h110, h111, hJ107, hq108⟩
              have hJ112 := zJ_trans hJ25 hJ107 zSub_nil
              show ZW _ _ _ _ _ _ _ (206, [some (.ref 2), some (.int 2), some (.int v99_2), some (.int v99_3)], [.int x109], M106)
              rcases Int.decEq x109.toInt (0 : Int) with h113 | h113
              · skip
                refine w_ine_t dX5_readPart_206 (t := 215) rfl (by omega) ?_
                refine w_lo dX5_readPart_215 rfl rfl rfl rfl ?_
                refine w_iv dX5_readPart_216 rfl rfl (As := []) rfl rfl hJ112.1.1 zs_2 (Nat.le_of_ble_eq_true rfl) ?_
                refine ZV.imp (k_1289 hN hJ112.1) ?_
                rintro _ ⟨M114, rfl, hJ115, hq116⟩
                have hJ117 := zJ_trans hJ112 hJ115 (zSub_cons (fun _ _ h h' hk => zIR_s (zIR_s (zIR_s (zIR_s (zIR_s (zIR_s (zIR_e (by omega) (by omega) hk))))))) zSub_nil)
                show ZW _ _ _ _ _ _ _ (219, [some (.ref 2), some (.int 2), some (.int v99_2), some (.int v99_3)], [], M114)
                refine w_ic dX5_readPart_219 zi_1 ?_
                refine w_en dX5_readPart_220 rfl ?_
                exact ⟨_, _, rfl, (by have := zt_1; omega), (by have := zt_1; omega), hJ117, trivial⟩
              · skip
                refine w_ine_f dX5_readPart_206 (t := 215) rfl (by omega) ?_
                refine w_lo dX5_readPart_209 rfl rfl rfl rfl ?_
                refine w_ic dX5_readPart_210 zi_1 ?_
                refine w_iv dX5_readPart_211 rfl rfl (As := [.int 1]) rfl rfl hJ112.1.1 zs_2 (Nat.le_of_ble_eq_true rfl) ?_
                refine ZV.imp (k_1286 1 (by have := zt_1; omega) (by have := zt_1; omega) hN hJ112.1) ?_
                rintro _ ⟨x121, M118, rfl, h122, h123, hJ119, hq120⟩
                have hJ124 := zJ_trans hJ112 hJ119 (zSub_cons (fun _ _ h h' hk => zIR_e (by omega) (by omega) hk) (zSub_cons (fun _ _ h h' hk => zIR_s (zIR_e (by omega) (by omega) hk)) zSub_nil))
                show ZW _ _ _ _ _ _ _ (214, [some (.ref 2), some (.int 2), some (.int v99_2), some (.int v99_3)], [.int x121], M118)
                refine w_eni dX5_readPart_214 rfl (znb (by omega) (by omega)) ?_
                exact ⟨_, _, rfl, (by omega), (by omega), hJ124, trivial⟩
          · skip
            refine w_ine_f dX5_readPart_137 (t := 142) rfl (by omega) ?_
            refine w_ic dX5_readPart_140 zi_0 ?_
            refine w_en dX5_readPart_141 rfl ?_
            exact ⟨_, _, rfl, (by have := zt_0; omega), (by have := zt_0; omega), hJ25, trivial⟩
        · skip
          refine w_ine_f dX5_readPart_105 (t := 114) rfl (by omega) ?_
          refine w_lo dX5_readPart_108 rfl rfl rfl rfl ?_
          refine w_ic dX5_readPart_109 zi_1 ?_
          refine w_iv dX5_readPart_110 rfl rfl (As := [.int 1]) rfl rfl hJ13.1.1 zs_2 (Nat.le_of_ble_eq_true rfl) ?_
          refine ZV.imp (k_1286 1 (by have := zt_1; omega) (by have := zt_1; omega) hN hJ13.1) ?_
          rintro _ ⟨x128, M125, rfl, h129, h130, hJ126, hq127⟩
          have hJ131 := zJ_trans hJ13 hJ126 (zSub_cons (fun _ _ h h' hk => zIR_e (by omega) (by omega) hk) (zSub_cons (fun _ _ h h' hk => zIR_s (zIR_e (by omega) (by omega) hk)) zSub_nil))
          show ZW _ _ _ _ _ _ _ (113, [some (.ref 2), some (.int 2), some (.int v99_2), some (.int v99_3)], [.int x128], M125)
          refine w_eni dX5_readPart_113 rfl (znb (by omega) (by omega)) ?_
          exact ⟨_, _, rfl, (by omega), (by omega), hJ131, trivial⟩
  obtain ⟨ih73, ih85, ih99⟩ := main 8
  show ZW _ _ _ _ _ _ _ (0, [some (.ref 2), some (.int 2), none, none], [], M0)
  refine w_lo dX5_readPart_0 rfl rfl rfl rfl ?_
  refine w_gf dX5_readPart_1 rfl hJ0.1.1 zs_2 (zr_2_3 hJ0.1) ?_
  refine w_lo dX5_readPart_4 rfl rfl rfl rfl ?_
  refine w_gfi dX5_readPart_5 rfl hJ0.1 zs_2 (Nat.le_of_ble_eq_true rfl) zo_2_7 ?_
  intro x132 f133 h134 h135
  refine w_iai dX5_readPart_8 hJ0.1 zs_4 (by omega) (by omega) zu_4 ?_
  intro x139 f136 h137 h138
  refine w_ic dX5_readPart_9 zi_4 ?_
  rcases Int.decEq x139.toInt (4 : Int) with h140 | h140
  · skip
    refine w_cne_t dX5_readPart_10 (t := 38) rfl (by have := zt_4; omega) ?_
    refine w_lo dX5_readPart_38 rfl rfl rfl rfl ?_
    refine w_iv dX5_readPart_39 rfl rfl (As := []) rfl rfl hJ0.1.1 zs_2 (Nat.le_of_ble_eq_true rfl) ?_
    refine ZV.imp (k_1287 hN hJ0.1) ?_
    rintro _ ⟨x144, M141, rfl, h145, h146, hJ142, hq143⟩
    have hJ147 := zJ_trans hJ0 hJ142 zSub_nil
    show ZW _ _ _ _ _ _ _ (42, [some (.ref 2), some (.int 2), none, none], [.int x144], M141)
    refine w_lo (ml' := [some (.ref 2), some (.int 2), some (.int x144), none]) dX5_readPart_42 rfl rfl rfl rfl ?_
    refine w_lo dX5_readPart_43 rfl rfl rfl rfl ?_
    refine w_ic dX5_readPart_44 zi_m1 ?_
    rcases Int.decEq x144.toInt (-1 : Int) with h148 | h148
    · skip
      refine w_ceq_f dX5_readPart_45 (t := 73) rfl (by have := zt_m1; omega) ?_
      refine w_lo dX5_readPart_48 rfl rfl rfl rfl ?_
      refine w_bi dX5_readPart_49 (c := 7) (by decide) ?_
      rcases zcut x144.toInt (7 : Int) with h149 | h149
      · skip
        refine w_cge_f dX5_readPart_51 (t := 73) rfl (by have := zt_7; omega) ?_
        refine w_lo dX5_readPart_54 rfl rfl rfl rfl ?_
        obtain ⟨b150, f151, h152⟩ := zd_2_8 hJ147.1
        have h153 := zDm_b h152
        refine w_gf dX5_readPart_55 rfl hJ147.1.1 zs_2 f151 ?_
        refine w_gf dX5_readPart_58 rfl hJ147.1.1 (zs_1_0 h152) (zr_1_0_15 h152 hJ147.1) ?_
        refine w_ic dX5_readPart_61 zi_m1 ?_
        refine w_lo dX5_readPart_62 rfl rfl rfl rfl ?_
        refine w_sub dX5_readPart_63 (by have := zt_m1; omega) ?_
        intro x154 h155
        have := zt_m1
        refine w_iv dX5_readPart_64 rfl rfl (As := [.int x154]) rfl rfl hJ147.1.1 (zs_1_13 h152) (Nat.le_of_ble_eq_true rfl) ?_
        refine ZV.imp (k_515 (b150 + 13) (zLw_of h152) x154 hN hJ147.1) ?_
        rintro _ ⟨M156, rfl, hJ157, hq158⟩
        have hJ159 := zJ_trans hJ147 hJ157 (zSub_cons (fun _ _ h h' hk => ((zDm_or h152).elim (fun e => zIR_s (zIR_s (zIR_e (by omega) (by omega) hk))) (fun e => zIR_s (zIR_s (zIR_s (zIR_e (by omega) (by omega) hk)))))) (zSub_cons (fun _ _ h h' hk => ((zDm_or h152).elim (fun e => zIR_s (zIR_s (zIR_s (zIR_s (zIR_a (by omega) (by omega)))))) (fun e => zIR_s (zIR_s (zIR_s (zIR_s (zIR_s (zIR_a (by omega) (by omega))))))))) zSub_nil))
        show ZW _ _ _ _ _ _ _ (67, [some (.ref 2), some (.int 2), some (.int x144), none], [], M156)
        refine w_lo dX5_readPart_67 rfl rfl rfl rfl ?_
        refine w_iv dX5_readPart_68 rfl rfl (As := []) rfl rfl hJ159.1.1 zs_2 (Nat.le_of_ble_eq_true rfl) ?_
        refine ZV.imp (k_1289 hN hJ159.1) ?_
        rintro _ ⟨M160, rfl, hJ161, hq162⟩
        have hJ163 := zJ_trans hJ159 hJ161 (zSub_cons (fun _ _ h h' hk => zIR_s (zIR_s (zIR_s (zIR_s (zIR_s (zIR_s (zIR_e (by omega) (by omega) hk))))))) zSub_nil)
        show ZW _ _ _ _ _ _ _ (71, [some (.ref 2), some (.int 2), some (.int x144), none], [], M160)
        refine w_ic dX5_readPart_71 zi_1 ?_
        refine w_en dX5_readPart_72 rfl ?_
        exact ⟨_, _, rfl, (by have := zt_1; omega), (by have := zt_1; omega), hJ163, trivial⟩
      · skip
        refine w_cge_t dX5_readPart_51 (t := 73) rfl (by have := zt_7; omega) ?_
        exact ih73 M141 x144 none hJ147 (by omega) (by omega) (by have := zt_2; omega)
    · skip
      refine w_ceq_t dX5_readPart_45 (t := 73) rfl (by have := zt_m1; omega) ?_
      exact ih73 M141 x144 none hJ147 (by omega) (by omega) (by have := zt_2; omega)
  · skip
    refine w_cne_f dX5_readPart_10 (t := 38) rfl (by have := zt_4; omega) ?_
    refine w_lo dX5_readPart_13 rfl rfl rfl rfl ?_
    obtain ⟨b164, f165, h166⟩ := zd_2_8 hJ0.1
    have h167 := zDm_b h166
    refine w_gf dX5_readPart_14 rfl hJ0.1.1 zs_2 f165 ?_
    refine w_gf dX5_readPart_17 rfl hJ0.1.1 (zs_1_0 h166) (zr_1_0_15 h166 hJ0.1) ?_
    refine w_lo dX5_readPart_20 rfl rfl rfl rfl ?_
    refine w_gf dX5_readPart_21 rfl hJ0.1.1 zs_2 (zr_2_4 hJ0.1) ?_
    refine w_lo dX5_readPart_24 rfl rfl rfl rfl ?_
    refine w_gf dX5_readPart_25 rfl hJ0.1.1 zs_2 f133 ?_
    refine w_iai dX5_readPart_28 hJ0.1 zs_5 (by omega) (by omega) zu_5 ?_
    intro x171 f168 h169 h170
    refine w_iv dX5_readPart_29 rfl rfl (As := [.int x171]) rfl rfl hJ0.1.1 (zs_1_13 h166) (Nat.le_of_ble_eq_true rfl) ?_
    refine ZV.imp (k_515 (b164 + 13) (zLw_of h166) x171 hN hJ0.1) ?_
    rintro _ ⟨M172, rfl, hJ173, hq174⟩
    have hJ175 := zJ_trans hJ0 hJ173 (zSub_cons (fun _ _ h h' hk => ((zDm_or h166).elim (fun e => zIR_s (zIR_s (zIR_e (by omega) (by omega) hk))) (fun e => zIR_s (zIR_s (zIR_s (zIR_e (by omega) (by omega) hk)))))) (zSub_cons (fun _ _ h h' hk => ((zDm_or h166).elim (fun e => zIR_s (zIR_s (zIR_s (zIR_s (zIR_a (by omega) (by omega)))))) (fun e => zIR_s (zIR_s (zIR_s (zIR_s (zIR_s (zIR_a (by omega) (by omega))))))))) zSub_nil))
    show ZW _ _ _ _ _ _ _ (32, [some (.ref 2), some (.int 2), none, none], [], M172)
    refine w_lo dX5_readPart_32 rfl rfl rfl rfl ?_
    refine w_iv dX5_readPart_33 rfl rfl (As := []) rfl rfl hJ175.1.1 zs_2 (Nat.le_of_ble_eq_true rfl) ?_
    refine ZV.imp (k_1289 hN hJ175.1) ?_
    rintro _ ⟨M176, rfl, hJ177, hq178⟩
    have hJ179 := zJ_trans hJ175 hJ177 (zSub_cons (fun _ _ h h' hk => zIR_s (zIR_s (zIR_s (zIR_s (zIR_s (zIR_s (zIR_e (by omega) (by omega) hk))))))) zSub_nil)
    show ZW _ _ _ _ _ _ _ (36, [some (.ref 2), some (.int 2), none, none], [], M176)
    refine w_ic dX5_readPart_36 zi_1 ?_
    refine w_en dX5_readPart_37 rfl ?_
    exact ⟨_, _, rfl, (by have := zt_1; omega), (by have := zt_1; omega), hJ179, trivial⟩
set_option maxRecDepth 100000 in
theorem k_1297_c2 {X : List Int32} {d N : Nat} {M0 : zM}  (hN : N ≤ 600) (hB0 : zB N M0) : ZV X (d + 15) 1297 [.ref 2, .int 2] M0 (zRI N [(2, 3, 0), (2, 3, 1), (20, 21, 1), (41, 42, 1), (21, 22, 1000), (42, 43, 1000), (2, 3, 7)] M0 (0) (1) (fun _ _ => True)) := by
  have hJ0 : zJ N [(2, 3, 0), (2, 3, 1), (20, 21, 1), (41, 42, 1), (21, 22, 1000), (42, 43, 1000), (2, 3, 7)] M0 M0 := zJ_refl hB0
  refine ZV.of (ini := false) rfl (Nat.le_of_ble_eq_true rfl) (by decide +kernel) ?_
  have main : ∀ n : Nat,
      (∀ (M : zM) (v4_2 : Int32) (v4_3 : Int32) (o4_4 : Option Value) (o4_5 : Option Value), zJ N [(2, 3, 0), (2, 3, 1), (20, 21, 1), (41, 42, 1), (21, 22, 1000), (42, 43, 1000), (2, 3, 7)] M0 M → ((-13 : Int) ≤ v4_2.toInt) → (v4_2.toInt ≤ 0) → ((0 : Int) ≤ v4_3.toInt) → (v4_3.toInt ≤ 1601) → 12832 * (1601 - v4_3.toInt) + 12830 < (n : Int) → ZW X (d + 14) 5 false (some .boolean) cX5_readSum (zRI N [(2, 3, 0), (2, 3, 1), (20, 21, 1), (41, 42, 1), (21, 22, 1000), (42, 43, 1000), (2, 3, 7)] M0 (0) (1) (fun _ _ => True)) (4, [some (.ref 2), some (.int 2), some (.int v4_2), some (.int v4_3), o4_4, o4_5], [], M)) ∧
      (∀ (M : zM) (v17_2 : Int32) (v17_3 : Int32) (v17_4 : Int32) (v17_5 : Int32), zJ N [(2, 3, 0), (2, 3, 1), (20, 21, 1), (41, 42, 1), (21, 22, 1000), (42, 43, 1000), (2, 3, 7)] M0 M → ((-2147483648 : Int) ≤ v17_2.toInt) → (v17_2.toInt ≤ 0) → ((0 : Int) ≤ v17_3.toInt) → (v17_3.toInt ≤ 1600) → ((-11 : Int) ≤ v17_4.toInt) → (v17_4.toInt ≤ 0) → ((0 : Int) ≤ v17_5.toInt) → (v17_5.toInt ≤ 1601) → 12832 * (1601 - v17_3.toInt) + 8 * (1601 - v17_5.toInt) + 5 < (n : Int) → ZW X (d + 14) 5 false (some .boolean) cX5_readSum (zRI N [(2, 3, 0), (2, 3, 1), (20, 21, 1), (41, 42, 1), (21, 22, 1000), (42, 43, 1000), (2, 3, 7)] M0 (0) (1) (fun _ _ => True)) (17, [some (.ref 2), some (.int 2), some (.int v17_2), some (.int v17_3), some (.int v17_4), some (.int v17_5)], [], M)) ∧
      (∀ (M : zM) (v52_2 : Int32) (v52_3 : Int32) (u52_4 : Int32) (v52_5 : Int32), zJ N [(2, 3, 0), (2, 3, 1), (20, 21, 1), (41, 42, 1), (21, 22, 1000), (42, 43, 1000), (2, 3, 7)] M0 M → ((-2147483648 : Int) ≤ v52_2.toInt) → (v52_2.toInt ≤ 0) → ((0 : Int) ≤ v52_3.toInt) → (v52_3.toInt ≤ 1600) → ((0 : Int) ≤ v52_5.toInt) → (v52_5.toInt ≤ 1600) → 12832 * (1601 - v52_3.toInt) + 8 * (1601 - v52_5.toInt) + 4 < (n : Int) → ZW X (d + 14) 5 false (some .boolean) cX5_readSum (zRI N [(2, 3, 0), (2, 3, 1), (20, 21, 1), (41, 42, 1), (21, 22, 1000), (42, 43, 1000), (2, 3, 7)] M0 (0) (1) (fun _ _ => True)) (52, [some (.ref 2), some (.int 2), some (.int v52_2), some (.int v52_3), some (.int u52_4), some (.int v52_5)], [], M)) ∧
      (∀ (M : zM) (v95_2 : Int32) (v95_3 : Int32) (u95_4 : Int32) (v95_5 : Int32) (s95_0 : Int32), zJ N [(2, 3, 0), (2, 3, 1), (20, 21, 1), (41, 42, 1), (21, 22, 1000), (42, 43, 1000), (2, 3, 7)] M0 M → ((-2147483648 : Int) ≤ v95_2.toInt) → (v95_2.toInt ≤ 0) → ((0 : Int) ≤ v95_3.toInt) → (v95_3.toInt ≤ 1600) → ((0 : Int) ≤ v95_5.toInt) → (v95_5.toInt ≤ 1600) → ((-11 : Int) ≤ s95_0.toInt) → (s95_0.toInt ≤ 0) → 12832 * (1601 - v95_3.toInt) + 8 * (1601 - v95_5.toInt) + 3 < (n : Int) → ZW X (d + 14) 5 false (some .boolean) cX5_readSum (zRI N [(2, 3, 0), (2, 3, 1), (20, 21, 1), (41, 42, 1), (21, 22, 1000), (42, 43, 1000), (2, 3, 7)] M0 (0) (1) (fun _ _ => True)) (95, [some (.ref 2), some (.int 2), some (.int v95_2), some (.int v95_3), some (.int u95_4), some (.int v95_5)], [.int s95_0], M)) ∧
      (∀ (M : zM) (v115_2 : Int32) (v115_3 : Int32) (u115_4 : Int32) (u115_5 : Int32), zJ N [(2, 3, 0), (2, 3, 1), (20, 21, 1), (41, 42, 1), (21, 22, 1000), (42, 43, 1000), (2, 3, 7)] M0 M → ((-2147483648 : Int) ≤ v115_2.toInt) → (v115_2.toInt ≤ 0) → ((0 : Int) ≤ v115_3.toInt) → (v115_3.toInt ≤ 1600) → 12832 * (1601 - v115_3.toInt) + 2 < (n : Int) → ZW X (d + 14) 5 false (some .boolean) cX5_readSum (zRI N [(2, 3, 0), (2, 3, 1), (20, 21, 1), (41, 42, 1), (21, 22, 1000), (42, 43, 1000), (2, 3, 7)] M0 (0) (1) (fun _ _ => True)) (115, [some (.ref 2), some (.int 2), some (.int v115_2), some (.int v115_3), some (.int u115_4), some (.int u115_5)], [], M)) ∧
      (∀ (M : zM) (u130_2 : Int32) (v130_3 : Int32) (u130_4 : Int32) (u130_5 : Int32), zJ N [(2, 3, 0), (2, 3, 1), (20, 21, 1), (41, 42, 1), (21, 22, 1000), (42, 43, 1000), (2, 3, 7)] M0 M → ((0 : Int) ≤ v130_3.toInt) → (v130_3.toInt ≤ 1600) → 12832 * (1601 - v130_3.toInt) + 1 < (n : Int) → ZW X (d + 14) 5 false (some .boolean) cX5_readSum (zRI N [(2, 3, 0), (2, 3, 1), (20, 21, 1), (41, 42, 1), (21, 22, 1000), (42, 43, 1000), (2, 3, 7)] M0 (0) (1) (fun _ _ => True)) (130, [some (.ref 2), some (.int 2), some (.int u130_2), some (.int v130_3), some (.int u130_4), some (.int u130_5)], [], M)) := by
    intro n
    induction n with
    | zero =>
      exact ⟨(fun M v4_2 v4_3 o4_4 o4_5 hJ v4_20 v4_21 v4_30 v4_31 hn => absurd hn (by omega)), (fun M v17_2 v17_3 v17_4 v17_5 hJ v17_20 v17_21 v17_30 v17_31 v17_40 v17_41 v17_50 v17_51 hn => absurd hn (by omega)), (fun M v52_2 v52_3 u52_4 v52_5 hJ v52_20 v52_21 v52_30 v52_31 v52_50 v52_51 hn => absurd hn (by omega)), (fun M v95_2 v95_3 u95_4 v95_5 s95_0 hJ v95_20 v95_21 v95_30 v95_31 v95_50 v95_51 s95_00 s95_01 hn => absurd hn (by omega)), (fun M v115_2 v115_3 u115_4 u115_5 hJ v115_20 v115_21 v115_30 v115_31 hn => absurd hn (by omega)), (fun M u130_2 v130_3 u130_4 u130_5 hJ v130_30 v130_31 hn => absurd hn (by omega))⟩
    | succ n ih =>
      obtain ⟨ih4, ih17, ih52, ih95, ih115, ih130⟩ := ih
      refine ⟨?_, ?_, ?_, ?_, ?_, ?_⟩
      · intro M v4_2 v4_3 o4_4 o4_5 hJ v4_20 v4_21 v4_30 v4_31 hn
        refine w_lo dX5_readSum_4 rfl rfl rfl rfl ?_
        refine w_si dX5_readSum_5 (c := 1600) (by decide) ?_
        rcases zcut (1600 : Int) v4_3.toInt with h1 | h1
        · skip
          refine w_cgt_t dX5_readSum_8 (t := 177) rfl (by have := zt_1600; omega) ?_
          refine w_ic dX5_readSum_177 zi_1 ?_
          refine w_en dX5_readSum_178 rfl ?_
          exact ⟨_, _, rfl, (by have := zt_1; omega), (by have := zt_1; omega), hJ, trivial⟩
        · skip
          refine w_cgt_f dX5_readSum_8 (t := 177) rfl (by have := zt_1600; omega) ?_
          refine w_ic dX5_readSum_11 zi_0 ?_
          refine w_lo (ml' := [some (.ref 2), some (.int 2), some (.int v4_2), some (.int v4_3), some (.int 0), o4_5]) dX5_readSum_12 rfl rfl rfl rfl ?_
          refine w_ic dX5_readSum_14 zi_0 ?_
          refine w_lo (ml' := [some (.ref 2), some (.int 2), some (.int v4_2), some (.int v4_3), some (.int 0), some (.int 0)]) dX5_readSum_15 rfl rfl rfl rfl ?_
          exact ih17 M v4_2 v4_3 0 0 hJ (zbot _) (by omega) (by omega) (by omega) (by have := zt_0; omega) (by have := zt_0; omega) (by have := zt_0; omega) (by have := zt_0; omega) (by have := zt_2; have := zt_0; omega)
      · intro M v17_2 v17_3 v17_4 v17_5 hJ v17_20 v17_21 v17_30 v17_31 v17_40 v17_41 v17_50 v17_51 hn
        refine w_lo dX5_readSum_17 rfl rfl rfl rfl ?_
        refine w_si dX5_readSum_19 (c := 1600) (by decide) ?_
        rcases zcut (1600 : Int) v17_5.toInt with h2 | h2
        · skip
          refine w_cgt_t dX5_readSum_22 (t := 115) rfl (by have := zt_1600; omega) ?_
          exact ih115 M v17_2 v17_3 v17_4 v17_5 hJ (zbot _) (by omega) (by omega) (by omega) (by have := zt_2; omega)
        · skip
          refine w_cgt_f dX5_readSum_22 (t := 115) rfl (by have := zt_1600; omega) ?_
          refine w_lo dX5_readSum_25 rfl rfl rfl rfl ?_
          refine w_lo dX5_readSum_26 rfl rfl rfl rfl ?_
          refine w_iv dX5_readSum_27 rfl rfl (As := [.int 2]) rfl rfl hJ.1.1 zs_2 (Nat.le_of_ble_eq_true rfl) ?_
          refine ZV.imp (k_1298_c2 hN hJ.1) ?_
          rintro _ ⟨x6, M3, rfl, h7, h8, hJ4, hq5⟩
          have hJ9 := zJ_trans hJ hJ4 (zSub_cons (fun _ _ h h' hk => zIR_e (by omega) (by omega) hk) (zSub_cons (fun _ _ h h' hk => zIR_s (zIR_e (by omega) (by omega) hk)) (zSub_cons (fun _ _ h h' hk => zIR_s (zIR_s (zIR_e (by omega) (by omega) hk))) (zSub_cons (fun _ _ h h' hk => zIR_s (zIR_s (zIR_s (zIR_e (by omega) (by omega) hk)))) (zSub_cons (fun _ _ h h' hk => zIR_s (zIR_s (zIR_s (zIR_s (zIR_a (by omega) (by omega)))))) (zSub_cons (fun _ _ h h' hk => zIR_s (zIR_s (zIR_s (zIR_s (zIR_s (zIR_a (by omega) (by omega))))))) (zSub_cons (fun _ _ h h' hk => zIR_s (zIR_s (zIR_s (zIR_s (zIR_s (zIR_s (zIR_e (by omega) (by omega) hk))))))) zSub_nil)))))))
          show ZW _ _ _ _ _ _ _ (30, [some (.ref 2), some (.int 2), some (.int v17_2), some (.int v17_3), some (.int v17_4), some (.int v17_5)], [.int x6], M3)
          rcases Int.decEq x6.toInt (0 : Int) with h10 | h10
          · skip
            refine w_ine_t dX5_readSum_30 (t := 35) rfl (by omega) ?_
            refine w_lo dX5_readSum_35 rfl rfl rfl rfl ?_
            rcases Int.decEq v17_4.toInt (0 : Int) with h11 | h11
            · skip
              refine w_ieq_f dX5_readSum_37 (t := 52) rfl (by omega) ?_
              refine w_lo dX5_readSum_40 rfl rfl rfl rfl ?_
              obtain ⟨b12, f13, h14⟩ := zd_2_8 hJ9.1
              have h15 := zDm_b h14
              refine w_gf dX5_readSum_41 rfl hJ9.1.1 zs_2 f13 ?_
              refine w_gf dX5_readSum_44 rfl hJ9.1.1 (zs_1_0 h14) (zr_1_0_15 h14 hJ9.1) ?_
              refine w_lo dX5_readSum_47 rfl rfl rfl rfl ?_
              refine w_iv dX5_readSum_49 rfl rfl (As := [.int v17_4]) rfl rfl hJ9.1.1 (zs_1_13 h14) (Nat.le_of_ble_eq_true rfl) ?_
              refine ZV.imp (k_515 (b12 + 13) (zLw_of h14) v17_4 hN hJ9.1) ?_
              rintro _ ⟨M16, rfl, hJ17, hq18⟩
              have hJ19 := zJ_trans hJ9 hJ17 (zSub_cons (fun _ _ h h' hk => ((zDm_or h14).elim (fun e => zIR_s (zIR_s (zIR_e (by omega) (by omega) hk))) (fun e => zIR_s (zIR_s (zIR_s (zIR_e (by omega) (by omega) hk)))))) (zSub_cons (fun _ _ h h' hk => ((zDm_or h14).elim (fun e => zIR_s (zIR_s (zIR_s (zIR_s (zIR_a (by omega) (by omega)))))) (fun e => zIR_s (zIR_s (zIR_s (zIR_s (zIR_s (zIR_a (by omega) (by omega))))))))) zSub_nil))
              show ZW _ _ _ _ _ _ _ (52, [some (.ref 2), some (.int 2), some (.int v17_2), some (.int v17_3), some (.int v17_4), some (.int v17_5)], [], M16)
              exact ih52 M16 v17_2 v17_3 v17_4 v17_5 hJ19 (zbot _) (by omega) (by omega) (by omega) (by omega) (by omega) (by have := zt_2; omega)
            · skip
              refine w_ieq_t dX5_readSum_37 (t := 52) rfl (by omega) ?_
              exact ih52 M3 v17_2 v17_3 v17_4 v17_5 hJ9 (zbot _) (by omega) (by omega) (by omega) (by omega) (by omega) (by have := zt_2; omega)
          · skip
            refine w_ine_f dX5_readSum_30 (t := 35) rfl (by omega) ?_
            refine w_ic dX5_readSum_33 zi_0 ?_
            refine w_en dX5_readSum_34 rfl ?_
            exact ⟨_, _, rfl, (by have := zt_0; omega), (by have := zt_0; omega), hJ9, trivial⟩
      · intro M v52_2 v52_3 u52_4 v52_5 hJ v52_20 v52_21 v52_30 v52_31 v52_50 v52_51 hn
        refine w_lo dX5_readSum_52 rfl rfl rfl rfl ?_
        refine w_bi dX5_readSum_53 (c := 42) (by decide) ?_
        refine w_iv dX5_readSum_55 rfl rfl (As := [.int 42]) rfl rfl hJ.1.1 zs_2 (Nat.le_of_ble_eq_true rfl) ?_
        refine ZV.imp (k_1299 42 (by have := zt_42; omega) (by have := zt_42; omega) hN hJ.1) ?_
        rintro _ ⟨x23, M20, rfl, h24, h25, hJ21, hq22⟩
        have hJ26 := zJ_trans hJ hJ21 zSub_nil
        show ZW _ _ _ _ _ _ _ (58, [some (.ref 2), some (.int 2), some (.int v52_2), some (.int v52_3), some (.int u52_4), some (.int v52_5)], [.int x23], M20)
        rcases Int.decEq x23.toInt (0 : Int) with h27 | h27
        · skip
          refine w_ieq_f dX5_readSum_58 (t := 66) rfl (by omega) ?_
          refine w_bi dX5_readSum_61 (c := (-9)) (by decide) ?_
          refine w_gt dX5_readSum_63 (t := 95) rfl ?_
          exact ih95 M20 v52_2 v52_3 u52_4 v52_5 (-9) hJ26 (zbot _) (by omega) (by omega) (by omega) (by omega) (by omega) (by have := zt_m9; omega) (by have := zt_m9; omega) (by have := zt_2; have := zt_m9; omega)
        · skip
          refine w_ieq_t dX5_readSum_58 (t := 66) rfl (by omega) ?_
          refine w_lo dX5_readSum_66 rfl rfl rfl rfl ?_
          refine w_bi dX5_readSum_67 (c := 47) (by decide) ?_
          refine w_iv dX5_readSum_69 rfl rfl (As := [.int 47]) rfl rfl hJ26.1.1 zs_2 (Nat.le_of_ble_eq_true rfl) ?_
          refine ZV.imp (k_1299 47 (by have := zt_47; omega) (by have := zt_47; omega) hN hJ26.1) ?_
          rintro _ ⟨x31, M28, rfl, h32, h33, hJ29, hq30⟩
          have hJ34 := zJ_trans hJ26 hJ29 zSub_nil
          show ZW _ _ _ _ _ _ _ (72, [some (.ref 2), some (.int 2), some (.int v52_2), some (.int v52_3), some (.int u52_4), some (.int v52_5)], [.int x31], M28)
          rcases Int.decEq x31.toInt (0 : Int) with h35 | h35
          · skip
            refine w_ieq_f dX5_readSum_72 (t := 80) rfl (by omega) ?_
            refine w_bi dX5_readSum_75 (c := (-10)) (by decide) ?_
            refine w_gt dX5_readSum_77 (t := 95) rfl ?_
            exact ih95 M28 v52_2 v52_3 u52_4 v52_5 (-10) hJ34 (zbot _) (by omega) (by omega) (by omega) (by omega) (by omega) (by have := zt_m10; omega) (by have := zt_m10; omega) (by have := zt_2; have := zt_m10; omega)
          · skip
            refine w_ieq_t dX5_readSum_72 (t := 80) rfl (by omega) ?_
            refine w_lo dX5_readSum_80 rfl rfl rfl rfl ?_
            refine w_bi dX5_readSum_81 (c := 37) (by decide) ?_
            refine w_iv dX5_readSum_83 rfl rfl (As := [.int 37]) rfl rfl hJ34.1.1 zs_2 (Nat.le_of_ble_eq_true rfl) ?_
            refine ZV.imp (k_1299 37 (by have := zt_37; omega) (by have := zt_37; omega) hN hJ34.1) ?_
            rintro _ ⟨x39, M36, rfl, h40, h41, hJ37, hq38⟩
            have hJ42 := zJ_trans hJ34 hJ37 zSub_nil
            show ZW _ _ _ _ _ _ _ (86, [some (.ref 2), some (.int 2), some (.int v52_2), some (.int v52_3), some (.int u52_4), some (.int v52_5)], [.int x39], M36)
            rcases Int.decEq x39.toInt (0 : Int) with h43 | h43
            · skip
              refine w_ieq_f dX5_readSum_86 (t := 94) rfl (by omega) ?_
              refine w_bi dX5_readSum_89 (c := (-11)) (by decide) ?_
              refine w_gt dX5_readSum_91 (t := 95) rfl ?_
              exact ih95 M36 v52_2 v52_3 u52_4 v52_5 (-11) hJ42 (zbot _) (by omega) (by omega) (by omega) (by omega) (by omega) (by have := zt_m11; omega) (by have := zt_m11; omega) (by have := zt_2; have := zt_m11; omega)
            · skip
              refine w_ieq_t dX5_readSum_86 (t := 94) rfl (by omega) ?_
              refine w_ic dX5_readSum_94 zi_0 ?_
              exact ih95 M36 v52_2 v52_3 u52_4 v52_5 0 hJ42 (zbot _) (by omega) (by omega) (by omega) (by omega) (by omega) (by have := zt_0; omega) (by have := zt_0; omega) (by have := zt_2; have := zt_0; omega)
      · intro M v95_2 v95_3 u95_4 v95_5 s95_0 hJ v95_20 v95_21 v95_30 v95_31 v95_50 v95_51 s95_00 s95_01 hn
        refine w_lo (ml' := [some (.ref 2), some (.int 2), some (.int v95_2), some (.int v95_3), some (.int s95_0), some (.int v95_5)]) dX5_readSum_95 rfl rfl rfl rfl ?_
        refine w_lo dX5_readSum_97 rfl rfl rfl rfl ?_
        rcases Int.decEq s95_0.toInt (0 : Int) with h44 | h44
        · skip
          refine w_ine_t dX5_readSum_99 (t := 105) rfl (by omega) ?_
          refine w_lo dX5_readSum_105 rfl rfl rfl rfl ?_
          refine w_iv dX5_readSum_106 rfl rfl (As := []) rfl rfl hJ.1.1 zs_2 (Nat.le_of_ble_eq_true rfl) ?_
          refine ZV.imp (k_1289 hN hJ.1) ?_
          rintro _ ⟨M45, rfl, hJ46, hq47⟩
          have hJ48 := zJ_trans hJ hJ46 (zSub_cons (fun _ _ h h' hk => zIR_s (zIR_s (zIR_s (zIR_s (zIR_s (zIR_s (zIR_e (by omega) (by omega) hk))))))) zSub_nil)
          show ZW _ _ _ _ _ _ _ (109, [some (.ref 2), some (.int 2), some (.int v95_2), some (.int v95_3), some (.int s95_0), some (.int v95_5)], [], M45)
          refine w_inc (kk := 5) dX5_readSum_109 rfl (m := 1) (by decide) (by omega) ?_
          intro x49 h50
          refine ⟨_, rfl, ?_⟩
          show ZW _ _ _ _ _ _ _ (112, [some (.ref 2), some (.int 2), some (.int v95_2), some (.int v95_3), some (.int s95_0), some (.int x49)], [], M45)
          refine w_gt dX5_readSum_112 (t := 17) rfl ?_
          exact ih17 M45 v95_2 v95_3 s95_0 x49 hJ48 (zbot _) (by omega) (by omega) (by omega) (by omega) (by omega) (by omega) (by omega) (by have := zt_2; omega)
        · skip
          refine w_ine_f dX5_readSum_99 (t := 105) rfl (by omega) ?_
          refine w_gt dX5_readSum_102 (t := 115) rfl ?_
          exact ih115 M v95_2 v95_3 s95_0 v95_5 hJ (zbot _) (by omega) (by omega) (by omega) (by have := zt_2; omega)
      · intro M v115_2 v115_3 u115_4 u115_5 hJ v115_20 v115_21 v115_30 v115_31 hn
        refine w_lo dX5_readSum_115 rfl rfl rfl rfl ?_
        rcases Int.decEq v115_2.toInt (0 : Int) with h51 | h51
        · skip
          refine w_ieq_f dX5_readSum_116 (t := 130) rfl (by omega) ?_
          refine w_lo dX5_readSum_119 rfl rfl rfl rfl ?_
          obtain ⟨b52, f53, h54⟩ := zd_2_8 hJ.1
          have h55 := zDm_b h54
          refine w_gf dX5_readSum_120 rfl hJ.1.1 zs_2 f53 ?_
          refine w_gf dX5_readSum_123 rfl hJ.1.1 (zs_1_0 h54) (zr_1_0_15 h54 hJ.1) ?_
          refine w_lo dX5_readSum_126 rfl rfl rfl rfl ?_
          refine w_iv dX5_readSum_127 rfl rfl (As := [.int v115_2]) rfl rfl hJ.1.1 (zs_1_13 h54) (Nat.le_of_ble_eq_true rfl) ?_
          refine ZV.imp (k_515 (b52 + 13) (zLw_of h54) v115_2 hN hJ.1) ?_
          rintro _ ⟨M56, rfl, hJ57, hq58⟩
          have hJ59 := zJ_trans hJ hJ57 (zSub_cons (fun _ _ h h' hk => ((zDm_or h54).elim (fun e => zIR_s (zIR_s (zIR_e (by omega) (by omega) hk))) (fun e => zIR_s (zIR_s (zIR_s (zIR_e (by omega) (by omega) hk)))))) (zSub_cons (fun _ _ h h' hk => ((zDm_or h54).elim (fun e => zIR_s (zIR_s (zIR_s (zIR_s (zIR_a (by omega) (by omega)))))) (fun e => zIR_s (zIR_s (zIR_s (zIR_s (zIR_s (zIR_a (by omega) (by omega))))))))) zSub_nil))
          show ZW _ _ _ _ _ _ _ (130, [some (.ref 2), some (.int 2), some (.int v115_2), some (.int v115_3), some (.int u115_4), some (.int u115_5)], [], M56)
          exact ih130 M56 v115_2 v115_3 u115_4 u115_5 hJ59 (by omega) (by omega) (by have := zt_2; omega)
        · skip
          refine w_ieq_t dX5_readSum_116 (t := 130) rfl (by omega) ?_
          exact ih130 M v115_2 v115_3 u115_4 u115_5 hJ (by omega) (by omega) (by have := zt_2; omega)
      · intro M u130_2 v130_3 u130_4 u130_5 hJ v130_30 v130_31 hn
        refine w_lo dX5_readSum_130 rfl rfl rfl rfl ?_
        refine w_bi dX5_readSum_131 (c := 43) (by decide) ?_
        refine w_iv dX5_readSum_133 rfl rfl (As := [.int 43]) rfl rfl hJ.1.1 zs_2 (Nat.le_of_ble_eq_true rfl) ?_
        refine ZV.imp (k_1299 43 (by have := zt_43; omega) (by have := zt_43; omega) hN hJ.1) ?_
        rintro _ ⟨x63, M60, rfl, h64, h65, hJ61, hq62⟩
        have hJ66 := zJ_trans hJ hJ61 zSub_nil
        show ZW _ _ _ _ _ _ _ (136, [some (.ref 2), some (.int 2), some (.int u130_2), some (.int v130_3), some (.int u130_4), some (.int u130_5)], [.int x63], M60)
        rcases Int.decEq x63.toInt (0 : Int) with h67 | h67
        · skip
          refine w_ieq_f dX5_readSum_136 (t := 144) rfl (by omega) ?_
          refine w_bi dX5_readSum_139 (c := (-12)) (by decide) ?_
          refine w_gt dX5_readSum_141 (t := 159) rfl ?_
          refine w_lo (ml' := [some (.ref 2), some (.int 2), some (.int (-12)), some (.int v130_3), some (.int u130_4), some (.int u130_5)]) dX5_readSum_159 rfl rfl rfl rfl ?_
          refine w_lo dX5_readSum_160 rfl rfl rfl rfl ?_
          refine w_ine_t dX5_readSum_161 (t := 167) rfl (by have := zt_m12; omega) ?_
          refine w_lo dX5_readSum_167 rfl rfl rfl rfl ?_
          refine w_iv dX5_readSum_168 rfl rfl (As := []) rfl rfl hJ66.1.1 zs_2 (Nat.le_of_ble_eq_true rfl) ?_
          refine ZV.imp (k_1289 hN hJ66.1) ?_
          rintro _ ⟨M68, rfl, hJ69, hq70⟩
          have hJ71 := zJ_trans hJ66 hJ69 (zSub_cons (fun _ _ h h' hk => zIR_s (zIR_s (zIR_s (zIR_s (zIR_s (zIR_s (zIR_e (by omega) (by omega) hk))))))) zSub_nil)
          show ZW _ _ _ _ _ _ _ (171, [some (.ref 2), some (.int 2), some (.int (-12)), some (.int v130_3), some (.int u130_4), some (.int u130_5)], [], M68)
          refine w_inc (kk := 3) dX5_readSum_171 rfl (m := 1) (by decide) (by omega) ?_
          intro x72 h73
          refine ⟨_, rfl, ?_⟩
          show ZW _ _ _ _ _ _ _ (174, [some (.ref 2), some (.int 2), some (.int (-12)), some (.int x72), some (.int u130_4), some (.int u130_5)], [], M68)
          refine w_gt dX5_readSum_174 (t := 4) rfl ?_
          exact ih4 M68 (-12) x72 (some (.int u130_4)) (some (.int u130_5)) hJ71 (by have := zt_m12; omega) (by have := zt_m12; omega) (by omega) (by omega) (by have := zt_2; have := zt_m12; omega)
        · skip
          refine w_ieq_t dX5_readSum_136 (t := 144) rfl (by omega) ?_
          refine w_lo dX5_readSum_144 rfl rfl rfl rfl ?_
          refine w_bi dX5_readSum_145 (c := 45) (by decide) ?_
          refine w_iv dX5_readSum_147 rfl rfl (As := [.int 45]) rfl rfl hJ66.1.1 zs_2 (Nat.le_of_ble_eq_true rfl) ?_
          refine ZV.imp (k_1299 45 (by have := zt_45; omega) (by have := zt_45; omega) hN hJ66.1) ?_
          rintro _ ⟨x77, M74, rfl, h78, h79, hJ75, hq76⟩
          have hJ80 := zJ_trans hJ66 hJ75 zSub_nil
          show ZW _ _ _ _ _ _ _ (150, [some (.ref 2), some (.int 2), some (.int u130_2), some (.int v130_3), some (.int u130_4), some (.int u130_5)], [.int x77], M74)
          rcases Int.decEq x77.toInt (0 : Int) with h81 | h81
          · skip
            refine w_ieq_f dX5_readSum_150 (t := 158) rfl (by omega) ?_
            refine w_bi dX5_readSum_153 (c := (-13)) (by decide) ?_
            refine w_gt dX5_readSum_155 (t := 159) rfl ?_
            refine w_lo (ml' := [some (.ref 2), some (.int 2), some (.int (-13)), some (.int v130_3), some (.int u130_4), some (.int u130_5)]) dX5_readSum_159 rfl rfl rfl rfl ?_
            refine w_lo dX5_readSum_160 rfl rfl rfl rfl ?_
            refine w_ine_t dX5_readSum_161 (t := 167) rfl (by have := zt_m13; omega) ?_
            refine w_lo dX5_readSum_167 rfl rfl rfl rfl ?_
            refine w_iv dX5_readSum_168 rfl rfl (As := []) rfl rfl hJ80.1.1 zs_2 (Nat.le_of_ble_eq_true rfl) ?_
            refine ZV.imp (k_1289 hN hJ80.1) ?_
            rintro _ ⟨M82, rfl, hJ83, hq84⟩
            have hJ85 := zJ_trans hJ80 hJ83 (zSub_cons (fun _ _ h h' hk => zIR_s (zIR_s (zIR_s (zIR_s (zIR_s (zIR_s (zIR_e (by omega) (by omega) hk))))))) zSub_nil)
            show ZW _ _ _ _ _ _ _ (171, [some (.ref 2), some (.int 2), some (.int (-13)), some (.int v130_3), some (.int u130_4), some (.int u130_5)], [], M82)
            refine w_inc (kk := 3) dX5_readSum_171 rfl (m := 1) (by decide) (by omega) ?_
            intro x86 h87
            refine ⟨_, rfl, ?_⟩
            show ZW _ _ _ _ _ _ _ (174, [some (.ref 2), some (.int 2), some (.int (-13)), some (.int x86), some (.int u130_4), some (.int u130_5)], [], M82)
            refine w_gt dX5_readSum_174 (t := 4) rfl ?_
            exact ih4 M82 (-13) x86 (some (.int u130_4)) (some (.int u130_5)) hJ85 (by have := zt_m13; omega) (by have := zt_m13; omega) (by omega) (by omega) (by have := zt_2; have := zt_m13; omega)
          · skip
            refine w_ieq_t dX5_readSum_150 (t := 158) rfl (by omega) ?_
            refine w_ic dX5_readSum_158 zi_0 ?_
            refine w_lo (ml' := [some (.ref 2), some (.int 2), some (.int 0), some (.int v130_3), some (.int u130_4), some (.int u130_5)]) dX5_readSum_159 rfl rfl rfl rfl ?_
            refine w_lo dX5_readSum_160 rfl rfl rfl rfl ?_
            refine w_ine_f dX5_readSum_161 (t := 167) rfl (by have := zt_0; omega) ?_
            refine w_gt dX5_readSum_164 (t := 177) rfl ?_
            refine w_ic dX5_readSum_177 zi_1 ?_
            refine w_en dX5_readSum_178 rfl ?_
            exact ⟨_, _, rfl, (by have := zt_1; omega), (by have := zt_1; omega), hJ80, trivial⟩
  obtain ⟨ih4, ih17, ih52, ih95, ih115, ih130⟩ := main 20582531
  show ZW _ _ _ _ _ _ _ (0, [some (.ref 2), some (.int 2), none, none, none, none], [], M0)
  refine w_ic dX5_readSum_0 zi_0 ?_
  refine w_lo (ml' := [some (.ref 2), some (.int 2), some (.int 0), none, none, none]) dX5_readSum_1 rfl rfl rfl rfl ?_
  refine w_ic dX5_readSum_2 zi_0 ?_
  refine w_lo (ml' := [some (.ref 2), some (.int 2), some (.int 0), some (.int 0), none, none]) dX5_readSum_3 rfl rfl rfl rfl ?_
  exact ih4 M0 0 0 none none hJ0 (by have := zt_0; omega) (by have := zt_0; omega) (by have := zt_0; omega) (by have := zt_0; omega) (by have := zt_2; have := zt_0; omega)
set_option maxRecDepth 100000 in
theorem k_1298_c1 {X : List Int32} {d N : Nat} {M0 : zM}  (hN : N ≤ 600) (hB0 : zB N M0) : ZV X (d + 16) 1298 [.ref 2, .int 1] M0 (zRI N [(2, 3, 0), (2, 3, 1), (20, 21, 1), (41, 42, 1), (21, 22, 1000), (42, 43, 1000), (2, 3, 7)] M0 (0) (1) (fun _ _ => True)) := by
  have hJ0 : zJ N [(2, 3, 0), (2, 3, 1), (20, 21, 1), (41, 42, 1), (21, 22, 1000), (42, 43, 1000), (2, 3, 7)] M0 M0 := zJ_refl hB0
  refine ZV.of (ini := false) rfl (Nat.le_of_ble_eq_true rfl) (by decide +kernel) ?_
  have main : ∀ n : Nat,
      (∀ (M : zM) (v73_2 : Int32) (o73_3 : Option Value), zJ N [(2, 3, 0), (2, 3, 1), (20, 21, 1), (41, 42, 1), (21, 22, 1000), (42, 43, 1000), (2, 3, 7)] M0 M → ((-1 : Int) ≤ v73_2.toInt) → (v73_2.toInt ≤ 26) → 3 < (n : Int) → ZW X (d + 15) 5 false (some .boolean) cX5_readPart (zRI N [(2, 3, 0), (2, 3, 1), (20, 21, 1), (41, 42, 1), (21, 22, 1000), (42, 43, 1000), (2, 3, 7)] M0 (0) (1) (fun _ _ => True)) (73, [some (.ref 2), some (.int 1), some (.int v73_2), o73_3], [], M)) ∧
      (∀ (M : zM) (v85_2 : Int32) (o85_3 : Option Value), zJ N [(2, 3, 0), (2, 3, 1), (20, 21, 1), (41, 42, 1), (21, 22, 1000), (42, 43, 1000), (2, 3, 7)] M0 M → ((25 : Int) ≤ v85_2.toInt) → (v85_2.toInt ≤ 26) → 2 < (n : Int) → ZW X (d + 15) 5 false (some .boolean) cX5_readPart (zRI N [(2, 3, 0), (2, 3, 1), (20, 21, 1), (41, 42, 1), (21, 22, 1000), (42, 43, 1000), (2, 3, 7)] M0 (0) (1) (fun _ _ => True)) (85, [some (.ref 2), some (.int 1), some (.int v85_2), o85_3], [], M)) ∧
      (∀ (M : zM) (v99_2 : Int32) (v99_3 : Int32), zJ N [(2, 3, 0), (2, 3, 1), (20, 21, 1), (41, 42, 1), (21, 22, 1000), (42, 43, 1000), (2, 3, 7)] M0 M → ((-1 : Int) ≤ v99_2.toInt) → (v99_2.toInt ≤ 26) → ((0 : Int) ≤ v99_3.toInt) → (v99_3.toInt ≤ 1) → 1 < (n : Int) → ZW X (d + 15) 5 false (some .boolean) cX5_readPart (zRI N [(2, 3, 0), (2, 3, 1), (20, 21, 1), (41, 42, 1), (21, 22, 1000), (42, 43, 1000), (2, 3, 7)] M0 (0) (1) (fun _ _ => True)) (99, [some (.ref 2), some (.int 1), some (.int v99_2), some (.int v99_3)], [], M)) := by
    intro n
    induction n with
    | zero =>
      exact ⟨(fun M v73_2 o73_3 hJ v73_20 v73_21 hn => absurd hn (by omega)), (fun M v85_2 o85_3 hJ v85_20 v85_21 hn => absurd hn (by omega)), (fun M v99_2 v99_3 hJ v99_20 v99_21 v99_30 v99_31 hn => absurd hn (by omega))⟩
    | succ n ih =>
      obtain ⟨ih73, ih85, ih99⟩ := ih
      refine ⟨?_, ?_, ?_⟩
      · intro M v73_2 o73_3 hJ v73_20 v73_21 hn
        refine w_lo dX5_readPart_73 rfl rfl rfl rfl ?_
        refine w_bi dX5_readPart_74 (c := 25) (by decide) ?_
        rcases Int.decEq v73_2.toInt (25 : Int) with h1 | h1
        · skip
          refine w_ceq_f dX5_readPart_76 (t := 85) rfl (by have := zt_25; omega) ?_
          refine w_lo dX5_readPart_79 rfl rfl rfl rfl ?_
          refine w_bi dX5_readPart_80 (c := 26) (by decide) ?_
          rcases Int.decEq v73_2.toInt (26 : Int) with h2 | h2
          · skip
            refine w_cne_t dX5_readPart_82 (t := 89) rfl (by have := zt_26; omega) ?_
            refine w_ic dX5_readPart_89 zi_0 ?_
            refine w_lo (ml' := [some (.ref 2), some (.int 1), some (.int v73_2), some (.int 0)]) dX5_readPart_90 rfl rfl rfl rfl ?_
            refine w_lo dX5_readPart_91 rfl rfl rfl rfl ?_
            refine w_ieq_t dX5_readPart_92 (t := 99) rfl (by have := zt_0; omega) ?_
            exact ih99 M v73_2 0 hJ (by omega) (by omega) (by have := zt_0; omega) (by have := zt_0; omega) (by have := zt_1; have := zt_0; omega)
          · skip
            refine w_cne_f dX5_readPart_82 (t := 89) rfl (by have := zt_26; omega) ?_
            exact ih85 M v73_2 o73_3 hJ (by omega) (by omega) (by have := zt_1; omega)
        · skip
          refine w_ceq_t dX5_readPart_76 (t := 85) rfl (by have := zt_25; omega) ?_
          exact ih85 M v73_2 o73_3 hJ (by omega) (by omega) (by have := zt_1; omega)
      · intro M v85_2 o85_3 hJ v85_20 v85_21 hn
        refine w_ic dX5_readPart_85 zi_1 ?_
        refine w_gt dX5_readPart_86 (t := 90) rfl ?_
        refine w_lo (ml' := [some (.ref 2), some (.int 1), some (.int v85_2), some (.int 1)]) dX5_readPart_90 rfl rfl rfl rfl ?_
        refine w_lo dX5_readPart_91 rfl rfl rfl rfl ?_
        refine w_ieq_f dX5_readPart_92 (t := 99) rfl (by have := zt_1; omega) ?_
        refine w_lo dX5_readPart_95 rfl rfl rfl rfl ?_
        refine w_iv dX5_readPart_96 rfl rfl (As := []) rfl rfl hJ.1.1 zs_2 (Nat.le_of_ble_eq_true rfl) ?_
        refine ZV.imp (k_1289 hN hJ.1) ?_
        rintro _ ⟨M3, rfl, hJ4, hq5⟩
        have hJ6 := zJ_trans hJ hJ4 (zSub_cons (fun _ _ h h' hk => zIR_s (zIR_s (zIR_s (zIR_s (zIR_s (zIR_s (zIR_e (by omega) (by omega) hk))))))) zSub_nil)
        show ZW _ _ _ _ _ _ _ (99, [some (.ref 2), some (.int 1), some (.int v85_2), some (.int 1)], [], M3)
        exact ih99 M3 v85_2 1 hJ6 (by omega) (by omega) (by have := zt_1; omega) (by have := zt_1; omega) (by have := zt_1; omega)
      · intro M v99_2 v99_3 hJ v99_20 v99_21 v99_30 v99_31 hn
        refine w_lo dX5_readPart_99 rfl rfl rfl rfl ?_
        refine w_bi dX5_readPart_100 (c := 40) (by decide) ?_
        refine w_iv dX5_readPart_102 rfl rfl (As := [.int 40]) rfl rfl hJ.1.1 zs_2 (Nat.le_of_ble_eq_true rfl) ?_
        refine ZV.imp (k_1299 40 (by have := zt_40; omega) (by have := zt_40; omega) hN hJ.1) ?_
        rintro _ ⟨x10, M7, rfl, h11, h12, hJ8, hq9⟩
        have hJ13 := zJ_trans hJ hJ8 zSub_nil
        show ZW _ _ _ _ _ _ _ (105, [some (.ref 2), some (.int 1), some (.int v99_2), some (.int v99_3)], [.int x10], M7)
        rcases Int.decEq x10.toInt (0 : Int) with h14 | h14
        · skip
          refine w_ine_t dX5_readPart_105 (t := 114) rfl (by omega) ?_
          refine w_lo dX5_readPart_114 rfl rfl rfl rfl ?_
          refine w_bi dX5_readPart_115 (c := 8) (by decide) ?_
          refine w_clt_t dX5_readPart_117 (t := 126) rfl (by have := zt_1; have := zt_8; omega) ?_
          refine w_lo dX5_readPart_126 rfl rfl rfl rfl ?_
          refine w_iv dX5_readPart_127 rfl rfl (As := []) rfl rfl hJ13.1.1 zs_2 (Nat.le_of_ble_eq_true rfl) ?_
          refine ZV.imp (k_1289 hN hJ13.1) ?_
          rintro _ ⟨M15, rfl, hJ16, hq17⟩
          have hJ18 := zJ_trans hJ13 hJ16 (zSub_cons (fun _ _ h h' hk => zIR_s (zIR_s (zIR_s (zIR_s (zIR_s (zIR_s (zIR_e (by omega) (by omega) hk))))))) zSub_nil)
          show ZW _ _ _ _ _ _ _ (130, [some (.ref 2), some (.int 1), some (.int v99_2), some (.int v99_3)], [], M15)
          refine w_lo dX5_readPart_130 rfl rfl rfl rfl ?_
          refine w_lo dX5_readPart_131 rfl rfl rfl rfl ?_
          refine w_ic dX5_readPart_132 zi_1 ?_
          refine w_pu (st' := [.int 2, .ref 2]) dX5_readPart_133 rfl rfl ?_
          refine w_iv dX5_readPart_134 rfl rfl (As := [.int 2]) rfl rfl hJ18.1.1 zs_2 (Nat.le_of_ble_eq_true rfl) ?_
          refine ZV.imp (k_1297_c2 hN hJ18.1) ?_
          rintro _ ⟨x22, M19, rfl, h23, h24, hJ20, hq21⟩
          have hJ25 := zJ_trans hJ18 hJ20 (zSub_cons (fun _ _ h h' hk => zIR_e (by omega) (by omega) hk) (zSub_cons (fun _ _ h h' hk => zIR_s (zIR_e (by omega) (by omega) hk)) (zSub_cons (fun _ _ h h' hk => zIR_s (zIR_s (zIR_e (by omega) (by omega) hk))) (zSub_cons (fun _ _ h h' hk => zIR_s (zIR_s (zIR_s (zIR_e (by omega) (by omega) hk)))) (zSub_cons (fun _ _ h h' hk => zIR_s (zIR_s (zIR_s (zIR_s (zIR_a (by omega) (by omega)))))) (zSub_cons (fun _ _ h h' hk => zIR_s (zIR_s (zIR_s (zIR_s (zIR_s (zIR_a (by omega) (by omega))))))) (zSub_cons (fun _ _ h h' hk => zIR_s (zIR_s (zIR_s (zIR_s (zIR_s (zIR_s (zIR_e (by omega) (by omega) hk))))))) zSub_nil)))))))
          show ZW _ _ _ _ _ _ _ (137, [some (.ref 2), some (.int 1), some (.int v99_2), some (.int v99_3)], [.int x22], M19)
          rcases Int.decEq x22.toInt (0 : Int) with h26 | h26
          · skip
            refine w_ine_t dX5_readPart_137 (t := 142) rfl (by omega) ?_
            refine w_lo dX5_readPart_142 rfl rfl rfl rfl ?_
            rcases Int.decEq v99_3.toInt (0 : Int) with h27 | h27
            · skip
              refine w_ieq_f dX5_readPart_143 (t := 200) rfl (by omega) ?_
              refine w_lo dX5_readPart_146 rfl rfl rfl rfl ?_
              refine w_bi dX5_readPart_147 (c := 44) (by decide) ?_
              refine w_iv dX5_readPart_149 rfl rfl (As := [.int 44]) rfl rfl hJ25.1.1 zs_2 (Nat.le_of_ble_eq_true rfl) ?_
              refine ZV.imp (k_1299 44 (by have := zt_44; omega) (by have := zt_44; omega) hN hJ25.1) ?_
              rintro _ ⟨x31, M28, rfl, h32, h33, hJ29, hq30⟩
              have hJ34 := zJ_trans hJ25 hJ29 zSub_nil
              show ZW _ _ _ _ _ _ _ (152, [some (.ref 2), some (.int 1), some (.int v99_2), some (.int v99_3)], [.int x31], M28)
              rcases Int.decEq x31.toInt (0 : Int) with h35 | h35
              · skip
                refine w_ine_t dX5_readPart_152 (t := 161) rfl (by omega) ?_
                refine w_lo dX5_readPart_161 rfl rfl rfl rfl ?_
                refine w_iv dX5_readPart_162 rfl rfl (As := []) rfl rfl hJ34.1.1 zs_2 (Nat.le_of_ble_eq_true rfl) ?_
                refine ZV.imp (k_1289 hN hJ34.1) ?_
                rintro _ ⟨M36, rfl, hJ37, hq38⟩
                have hJ39 := zJ_trans hJ34 hJ37 (zSub_cons (fun _ _ h h' hk => zIR_s (zIR_s (zIR_s (zIR_s (zIR_s (zIR_s (zIR_e (by omega) (by omega) hk))))))) zSub_nil)
                show ZW _ _ _ _ _ _ _ (165, [some (.ref 2), some (.int 1), some (.int v99_2), some (.int v99_3)], [], M36)
                refine w_lo dX5_readPart_165 rfl rfl rfl rfl ?_
                refine w_lo dX5_readPart_166 rfl rfl rfl rfl ?_
                refine w_ic dX5_readPart_167 zi_1 ?_
                refine w_pu (st' := [.int 2, .ref 2]) dX5_readPart_168 rfl rfl ?_
                refine w_iv dX5_readPart_169 rfl rfl (As := [.int 2]) rfl rfl hJ39.1.1 zs_2 (Nat.le_of_ble_eq_true rfl) ?_
                refine ZV.imp (k_1297_c2 hN hJ39.1) ?_
                rintro _ ⟨x43, M40, rfl, h44, h45, hJ41, hq42⟩
                have hJ46 := zJ_trans hJ39 hJ41 (zSub_cons (fun _ _ h h' hk => zIR_e (by omega) (by omega) hk) (zSub_cons (fun _ _ h h' hk => zIR_s (zIR_e (by omega) (by omega) hk)) (zSub_cons (fun _ _ h h' hk => zIR_s (zIR_s (zIR_e (by omega) (by omega) hk))) (zSub_cons (fun _ _ h h' hk => zIR_s (zIR_s (zIR_s (zIR_e (by omega) (by omega) hk)))) (zSub_cons (fun _ _ h h' hk => zIR_s (zIR_s (zIR_s (zIR_s (zIR_a (by omega) (by omega)))))) (zSub_cons (fun _ _ h h' hk => zIR_s (zIR_s (zIR_s (zIR_s (zIR_s (zIR_a (by omega) (by omega))))))) (zSub_cons (fun _ _ h h' hk => zIR_s (zIR_s (zIR_s (zIR_s (zIR_s (zIR_s (zIR_e (by omega) (by omega) hk))))))) zSub_nil)))))))
                show ZW _ _ _ _ _ _ _ (172, [some (.ref 2), some (.int 1), some (.int v99_2), some (.int v99_3)], [.int x43], M40)
                rcases Int.decEq x43.toInt (0 : Int) with h47 | h47
                · skip
                  refine w_ine_t dX5_readPart_172 (t := 177) rfl (by omega) ?_
                  refine w_lo dX5_readPart_177 rfl rfl rfl rfl ?_
                  obtain ⟨b48, f49, h50⟩ := zd_2_8 hJ46.1
                  have h51 := zDm_b h50
                  refine w_gf dX5_readPart_178 rfl hJ46.1.1 zs_2 f49 ?_
                  refine w_gf dX5_readPart_181 rfl hJ46.1.1 (zs_1_0 h50) (zr_1_0_15 h50 hJ46.1) ?_
                  refine w_lo dX5_readPart_184 rfl rfl rfl rfl ?_
                  refine w_bi dX5_readPart_185 (c := 25) (by decide) ?_
                  rcases Int.decEq v99_2.toInt (25 : Int) with h52 | h52
                  · skip
                    refine w_cne_t dX5_readPart_187 (t := 195) rfl (by have := zt_25; omega) ?_
                    refine w_bi dX5_readPart_195 (c := (-20)) (by decide) ?_
                    refine w_iv dX5_readPart_197 rfl rfl (As := [.int (-20)]) rfl rfl hJ46.1.1 (zs_1_13 h50) (Nat.le_of_ble_eq_true rfl) ?_
                    refine ZV.imp (k_515 (b48 + 13) (zLw_of h50) (-20) hN hJ46.1) ?_
                    rintro _ ⟨M53, rfl, hJ54, hq55⟩
                    have hJ56 := zJ_trans hJ46 hJ54 (zSub_cons (fun _ _ h h' hk => ((zDm_or h50).elim (fun e => zIR_s (zIR_s (zIR_e (by omega) (by omega) hk))) (fun e => zIR_s (zIR_s (zIR_s (zIR_e (by omega) (by omega) hk)))))) (zSub_cons (fun _ _ h h' hk => ((zDm_or h50).elim (fun e => zIR_s (zIR_s (zIR_s (zIR_s (zIR_a (by omega) (by omega)))))) (fun e => zIR_s (zIR_s (zIR_s (zIR_s (zIR_s (zIR_a (by omega) (by omega))))))))) zSub_nil))
                    show ZW _ _ _ _ _ _ _ (200, [some (.ref 2), some (.int 1), some (.int v99_2), some (.int v99_3)], [], M53)
                    refine w_lo dX5_readPart_200 rfl rfl rfl rfl ?_
                    refine w_bi dX5_readPart_201 (c := 41) (by decide) ?_
                    refine w_iv dX5_readPart_203 rfl rfl (As := [.int 41]) rfl rfl hJ56.1.1 zs_2 (Nat.le_of_ble_eq_true rfl) ?_
                    refine ZV.imp (k_1299 41 (by have := zt_41; omega) (by have := zt_41; omega) hN hJ56.1) ?_
                    rintro _ ⟨x60, M57, rfl, h61, h62, hJ58, hq59⟩
                    have hJ63 := zJ_trans hJ56 hJ58 zSub_nil
                    show ZW _ _ _ _ _ _ _ (206, [some (.ref 2), some (.int 1), some (.int v99_2), some (.int v99_3)], [.int x60], M57)
                    rcases Int.decEq x60.toInt (0 : Int) with h64 | h64
                    · skip
                      refine w_ine_t dX5_readPart_206 (t := 215) rfl (by omega) ?_
                      refine w_lo dX5_readPart_215 rfl rfl rfl rfl ?_
                      refine w_iv dX5_readPart_216 rfl rfl (As := []) rfl rfl hJ63.1.1 zs_2 (Nat.le_of_ble_eq_true rfl) ?_
                      refine ZV.imp (k_1289 hN hJ63.1) ?_
                      rintro _ ⟨M65, rfl, hJ66, hq67⟩
                      have hJ68 := zJ_trans hJ63 hJ66 (zSub_cons (fun _ _ h h' hk => zIR_s (zIR_s (zIR_s (zIR_s (zIR_s (zIR_s (zIR_e (by omega) (by omega) hk))))))) zSub_nil)
                      show ZW _ _ _ _ _ _ _ (219, [some (.ref 2), some (.int 1), some (.int v99_2), some (.int v99_3)], [], M65)
                      refine w_ic dX5_readPart_219 zi_1 ?_
                      refine w_en dX5_readPart_220 rfl ?_
                      exact ⟨_, _, rfl, (by have := zt_1; omega), (by have := zt_1; omega), hJ68, trivial⟩
                    · skip
                      refine w_ine_f dX5_readPart_206 (t := 215) rfl (by omega) ?_
                      refine w_lo dX5_readPart_209 rfl rfl rfl rfl ?_
                      refine w_ic dX5_readPart_210 zi_1 ?_
                      refine w_iv dX5_readPart_211 rfl rfl (As := [.int 1]) rfl rfl hJ63.1.1 zs_2 (Nat.le_of_ble_eq_true rfl) ?_
                      refine ZV.imp (k_1286 1 (by have := zt_1; omega) (by have := zt_1; omega) hN hJ63.1) ?_
                      rintro _ ⟨x72, M69, rfl, h73, h74, hJ70, hq71⟩
                      have hJ75 := zJ_trans hJ63 hJ70 (zSub_cons (fun _ _ h h' hk => zIR_e (by omega) (by omega) hk) (zSub_cons (fun _ _ h h' hk => zIR_s (zIR_e (by omega) (by omega) hk)) zSub_nil))
                      show ZW _ _ _ _ _ _ _ (214, [some (.ref 2), some (.int 1), some (.int v99_2), some (.int v99_3)], [.int x72], M69)
                      refine w_eni dX5_readPart_214 rfl (znb (by omega) (by omega)) ?_
                      exact ⟨_, _, rfl, (by omega), (by omega), hJ75, trivial⟩
                  · skip
                    refine w_cne_f dX5_readPart_187 (t := 195) rfl (by have := zt_25; omega) ?_
                    refine w_bi dX5_readPart_190 (c := (-19)) (by decide) ?_
                    refine w_gt dX5_readPart_192 (t := 197) rfl ?_
                    refine w_iv dX5_readPart_197 rfl rfl (As := [.int (-19)]) rfl rfl hJ46.1.1 (zs_1_13 h50) (Nat.le_of_ble_eq_true rfl) ?_
                    refine ZV.imp (k_515 (b48 + 13) (zLw_of h50) (-19) hN hJ46.1) ?_
                    rintro _ ⟨M76, rfl, hJ77, hq78⟩
                    have hJ79 := zJ_trans hJ46 hJ77 (zSub_cons (fun _ _ h h' hk => ((zDm_or h50).elim (fun e => zIR_s (zIR_s (zIR_e (by omega) (by omega) hk))) (fun e => zIR_s (zIR_s (zIR_s (zIR_e (by omega) (by omega) hk)))))) (zSub_cons (fun _ _ h h' hk => ((zDm_or h50).elim (fun e => zIR_s (zIR_s (zIR_s (zIR_s (zIR_a (by omega) (by omega)))))) (fun e => zIR_s (zIR_s (zIR_s (zIR_s (zIR_s (zIR_a (by omega) (by omega))))))))) zSub_nil))
                    show ZW _ _ _ _ _ _ _ (200, [some (.ref 2), some (.int 1), some (.int v99_2), some (.int v99_3)], [], M76)
                    refine w_lo dX5_readPart_200 rfl rfl rfl rfl ?_
                    refine w_bi dX5_readPart_201 (c := 41) (by decide) ?_
                    refine w_iv dX5_readPart_203 rfl rfl (As := [.int 41]) rfl rfl hJ79.1.1 zs_2 (Nat.le_of_ble_eq_true rfl) ?_
                    refine ZV.imp (k_1299 41 (by have := zt_41; omega) (by have := zt_41; omega) hN hJ79.1) ?_
                    rintro _ ⟨x83, M80, rfl, h84, h85, hJ81, hq82⟩
                    have hJ86 := zJ_trans hJ79 hJ81 zSub_nil
                    show ZW _ _ _ _ _ _ _ (206, [some (.ref 2), some (.int 1), some (.int v99_2), some (.int v99_3)], [.int x83], M80)
                    rcases Int.decEq x83.toInt (0 : Int) with h87 | h87
                    · skip
                      refine w_ine_t dX5_readPart_206 (t := 215) rfl (by omega) ?_
                      refine w_lo dX5_readPart_215 rfl rfl rfl rfl ?_
                      refine w_iv dX5_readPart_216 rfl rfl (As := []) rfl rfl hJ86.1.1 zs_2 (Nat.le_of_ble_eq_true rfl) ?_
                      refine ZV.imp (k_1289 hN hJ86.1) ?_
                      rintro _ ⟨M88, rfl, hJ89, hq90⟩
                      have hJ91 := zJ_trans hJ86 hJ89 (zSub_cons (fun _ _ h h' hk => zIR_s (zIR_s (zIR_s (zIR_s (zIR_s (zIR_s (zIR_e (by omega) (by omega) hk))))))) zSub_nil)
                      show ZW _ _ _ _ _ _ _ (219, [some (.ref 2), some (.int 1), some (.int v99_2), some (.int v99_3)], [], M88)
                      refine w_ic dX5_readPart_219 zi_1 ?_
                      refine w_en dX5_readPart_220 rfl ?_
                      exact ⟨_, _, rfl, (by have := zt_1; omega), (by have := zt_1; omega), hJ91, trivial⟩
                    · skip
                      refine w_ine_f dX5_readPart_206 (t := 215) rfl (by omega) ?_
                      refine w_lo dX5_readPart_209 rfl rfl rfl rfl ?_
                      refine w_ic dX5_readPart_210 zi_1 ?_
                      refine w_iv dX5_readPart_211 rfl rfl (As := [.int 1]) rfl rfl hJ86.1.1 zs_2 (Nat.le_of_ble_eq_true rfl) ?_
                      refine ZV.imp (k_1286 1 (by have := zt_1; omega) (by have := zt_1; omega) hN hJ86.1) ?_
                      rintro _ ⟨x95, M92, rfl, h96, h97, hJ93, hq94⟩
                      have hJ98 := zJ_trans hJ86 hJ93 (zSub_cons (fun _ _ h h' hk => zIR_e (by omega) (by omega) hk) (zSub_cons (fun _ _ h h' hk => zIR_s (zIR_e (by omega) (by omega) hk)) zSub_nil))
                      show ZW _ _ _ _ _ _ _ (214, [some (.ref 2), some (.int 1), some (.int v99_2), some (.int v99_3)], [.int x95], M92)
                      refine w_eni dX5_readPart_214 rfl (znb (by omega) (by omega)) ?_
                      exact ⟨_, _, rfl, (by omega), (by omega), hJ98, trivial⟩
                · skip
                  refine w_ine_f dX5_readPart_172 (t := 177) rfl (by omega) ?_
                  refine w_ic dX5_readPart_175 zi_0 ?_
                  refine w_en dX5_readPart_176 rfl ?_
                  exact ⟨_, _, rfl, (by have := zt_0; omega), (by have := zt_0; omega), hJ46, trivial⟩
              · skip
                refine w_ine_f dX5_readPart_152 (t := 161) rfl (by omega) ?_
                refine w_lo dX5_readPart_155 rfl rfl rfl rfl ?_
                refine w_ic dX5_readPart_156 zi_1 ?_
                refine w_iv dX5_readPart_157 rfl rfl (As := [.int 1]) rfl rfl hJ34.1.1 zs_2 (Nat.le_of_ble_eq_true rfl) ?_
                refine ZV.imp (k_1286 1 (by have := zt_1; omega) (by have := zt_1; omega) hN hJ34.1) ?_
                rintro _ ⟨x102, M99, rfl, h103, h104, hJ100, hq101⟩
                have hJ105 := zJ_trans hJ34 hJ100 (zSub_cons (fun _ _ h h' hk => zIR_e (by omega) (by omega) hk) (zSub_cons (fun _ _ h h' hk => zIR_s (zIR_e (by omega) (by omega) hk)) zSub_nil))
                show ZW _ _ _ _ _ _ _ (160, [some (.ref 2), some (.int 1), some (.int v99_2), some (.int v99_3)], [.int x102], M99)
                refine w_eni dX5_readPart_160 rfl (znb (by omega) (by omega)) ?_
                exact ⟨_, _, rfl, (by omega), (by omega), hJ105, trivial⟩
            · skip
              refine w_ieq_t dX5_readPart_143 (t := 200) rfl (by omega) ?_
              refine w_lo dX5_readPart_200 rfl rfl rfl rfl ?_
              refine w_bi dX5_readPart_201 (c := 41) (by decide) ?_
              refine w_iv dX5_readPart_203 rfl rfl (As := [.int 41]) rfl rfl hJ25.1.1 zs_2 (Nat.le_of_ble_eq_true rfl) ?_
              refine ZV.imp (k_1299 41 (by have := zt_41; omega) (by have := zt_41; omega) hN hJ25.1) ?_
              rintro _ ⟨x109, M106, rfl, h110, h111, hJ107, hq108⟩
              have hJ112 := zJ_trans hJ25 hJ107 zSub_nil
              show ZW _ _ _ _ _ _ _ (206, [some (.ref 2), some (.int 1), some (.int v99_2), some (.int v99_3)], [.int x109], M106)
              rcases Int.decEq x109.toInt (0 : Int) with h113 | h113
              · skip
                refine w_ine_t dX5_readPart_206 (t := 215) rfl (by omega) ?_
                refine w_lo dX5_readPart_215 rfl rfl rfl rfl ?_
                refine w_iv dX5_readPart_216 rfl rfl (As := []) rfl rfl hJ112.1.1 zs_2 (Nat.le_of_ble_eq_true rfl) ?_
                refine ZV.imp (k_1289 hN hJ112.1) ?_
                rintro _ ⟨M114, rfl, hJ115, hq116⟩
                have hJ117 := zJ_trans hJ112 hJ115 (zSub_cons (fun _ _ h h' hk => zIR_s (zIR_s (zIR_s (zIR_s (zIR_s (zIR_s (zIR_e (by omega) (by omega) hk))))))) zSub_nil)
                show ZW _ _ _ _ _ _ _ (219, [some (.ref 2), some (.int 1), some (.int v99_2), some (.int v99_3)], [], M114)
                refine w_ic dX5_readPart_219 zi_1 ?_
                refine w_en dX5_readPart_220 rfl ?_
                exact ⟨_, _, rfl, (by have := zt_1; omega), (by have := zt_1; omega), hJ117, trivial⟩
              · skip
                refine w_ine_f dX5_readPart_206 (t := 215) rfl (by omega) ?_
                refine w_lo dX5_readPart_209 rfl rfl rfl rfl ?_
                refine w_ic dX5_readPart_210 zi_1 ?_
                refine w_iv dX5_readPart_211 rfl rfl (As := [.int 1]) rfl rfl hJ112.1.1 zs_2 (Nat.le_of_ble_eq_true rfl) ?_
                refine ZV.imp (k_1286 1 (by have := zt_1; omega) (by have := zt_1; omega) hN hJ112.1) ?_
                rintro _ ⟨x121, M118, rfl, h122, h123, hJ119, hq120⟩
                have hJ124 := zJ_trans hJ112 hJ119 (zSub_cons (fun _ _ h h' hk => zIR_e (by omega) (by omega) hk) (zSub_cons (fun _ _ h h' hk => zIR_s (zIR_e (by omega) (by omega) hk)) zSub_nil))
                show ZW _ _ _ _ _ _ _ (214, [some (.ref 2), some (.int 1), some (.int v99_2), some (.int v99_3)], [.int x121], M118)
                refine w_eni dX5_readPart_214 rfl (znb (by omega) (by omega)) ?_
                exact ⟨_, _, rfl, (by omega), (by omega), hJ124, trivial⟩
          · skip
            refine w_ine_f dX5_readPart_137 (t := 142) rfl (by omega) ?_
            refine w_ic dX5_readPart_140 zi_0 ?_
            refine w_en dX5_readPart_141 rfl ?_
            exact ⟨_, _, rfl, (by have := zt_0; omega), (by have := zt_0; omega), hJ25, trivial⟩
        · skip
          refine w_ine_f dX5_readPart_105 (t := 114) rfl (by omega) ?_
          refine w_lo dX5_readPart_108 rfl rfl rfl rfl ?_
          refine w_ic dX5_readPart_109 zi_1 ?_
          refine w_iv dX5_readPart_110 rfl rfl (As := [.int 1]) rfl rfl hJ13.1.1 zs_2 (Nat.le_of_ble_eq_true rfl) ?_
          refine ZV.imp (k_1286 1 (by have := zt_1; omega) (by have := zt_1; omega) hN hJ13.1) ?_
          rintro _ ⟨x128, M125, rfl, h129, h130, hJ126, hq127⟩
          have hJ131 := zJ_trans hJ13 hJ126 (zSub_cons (fun _ _ h h' hk => zIR_e (by omega) (by omega) hk) (zSub_cons (fun _ _ h h' hk => zIR_s (zIR_e (by omega) (by omega) hk)) zSub_nil))
          show ZW _ _ _ _ _ _ _ (113, [some (.ref 2), some (.int 1), some (.int v99_2), some (.int v99_3)], [.int x128], M125)
          refine w_eni dX5_readPart_113 rfl (znb (by omega) (by omega)) ?_
          exact ⟨_, _, rfl, (by omega), (by omega), hJ131, trivial⟩
  obtain ⟨ih73, ih85, ih99⟩ := main 8
  show ZW _ _ _ _ _ _ _ (0, [some (.ref 2), some (.int 1), none, none], [], M0)
  refine w_lo dX5_readPart_0 rfl rfl rfl rfl ?_
  refine w_gf dX5_readPart_1 rfl hJ0.1.1 zs_2 (zr_2_3 hJ0.1) ?_
  refine w_lo dX5_readPart_4 rfl rfl rfl rfl ?_
  refine w_gfi dX5_readPart_5 rfl hJ0.1 zs_2 (Nat.le_of_ble_eq_true rfl) zo_2_7 ?_
  intro x132 f133 h134 h135
  refine w_iai dX5_readPart_8 hJ0.1 zs_4 (by omega) (by omega) zu_4 ?_
  intro x139 f136 h137 h138
  refine w_ic dX5_readPart_9 zi_4 ?_
  rcases Int.decEq x139.toInt (4 : Int) with h140 | h140
  · skip
    refine w_cne_t dX5_readPart_10 (t := 38) rfl (by have := zt_4; omega) ?_
    refine w_lo dX5_readPart_38 rfl rfl rfl rfl ?_
    refine w_iv dX5_readPart_39 rfl rfl (As := []) rfl rfl hJ0.1.1 zs_2 (Nat.le_of_ble_eq_true rfl) ?_
    refine ZV.imp (k_1287 hN hJ0.1) ?_
    rintro _ ⟨x144, M141, rfl, h145, h146, hJ142, hq143⟩
    have hJ147 := zJ_trans hJ0 hJ142 zSub_nil
    show ZW _ _ _ _ _ _ _ (42, [some (.ref 2), some (.int 1), none, none], [.int x144], M141)
    refine w_lo (ml' := [some (.ref 2), some (.int 1), some (.int x144), none]) dX5_readPart_42 rfl rfl rfl rfl ?_
    refine w_lo dX5_readPart_43 rfl rfl rfl rfl ?_
    refine w_ic dX5_readPart_44 zi_m1 ?_
    rcases Int.decEq x144.toInt (-1 : Int) with h148 | h148
    · skip
      refine w_ceq_f dX5_readPart_45 (t := 73) rfl (by have := zt_m1; omega) ?_
      refine w_lo dX5_readPart_48 rfl rfl rfl rfl ?_
      refine w_bi dX5_readPart_49 (c := 7) (by decide) ?_
      rcases zcut x144.toInt (7 : Int) with h149 | h149
      · skip
        refine w_cge_f dX5_readPart_51 (t := 73) rfl (by have := zt_7; omega) ?_
        refine w_lo dX5_readPart_54 rfl rfl rfl rfl ?_
        obtain ⟨b150, f151, h152⟩ := zd_2_8 hJ147.1
        have h153 := zDm_b h152
        refine w_gf dX5_readPart_55 rfl hJ147.1.1 zs_2 f151 ?_
        refine w_gf dX5_readPart_58 rfl hJ147.1.1 (zs_1_0 h152) (zr_1_0_15 h152 hJ147.1) ?_
        refine w_ic dX5_readPart_61 zi_m1 ?_
        refine w_lo dX5_readPart_62 rfl rfl rfl rfl ?_
        refine w_sub dX5_readPart_63 (by have := zt_m1; omega) ?_
        intro x154 h155
        have := zt_m1
        refine w_iv dX5_readPart_64 rfl rfl (As := [.int x154]) rfl rfl hJ147.1.1 (zs_1_13 h152) (Nat.le_of_ble_eq_true rfl) ?_
        refine ZV.imp (k_515 (b150 + 13) (zLw_of h152) x154 hN hJ147.1) ?_
        rintro _ ⟨M156, rfl, hJ157, hq158⟩
        have hJ159 := zJ_trans hJ147 hJ157 (zSub_cons (fun _ _ h h' hk => ((zDm_or h152).elim (fun e => zIR_s (zIR_s (zIR_e (by omega) (by omega) hk))) (fun e => zIR_s (zIR_s (zIR_s (zIR_e (by omega) (by omega) hk)))))) (zSub_cons (fun _ _ h h' hk => ((zDm_or h152).elim (fun e => zIR_s (zIR_s (zIR_s (zIR_s (zIR_a (by omega) (by omega)))))) (fun e => zIR_s (zIR_s (zIR_s (zIR_s (zIR_s (zIR_a (by omega) (by omega))))))))) zSub_nil))
        show ZW _ _ _ _ _ _ _ (67, [some (.ref 2), some (.int 1), some (.int x144), none], [], M156)
        refine w_lo dX5_readPart_67 rfl rfl rfl rfl ?_
        refine w_iv dX5_readPart_68 rfl rfl (As := []) rfl rfl hJ159.1.1 zs_2 (Nat.le_of_ble_eq_true rfl) ?_
        refine ZV.imp (k_1289 hN hJ159.1) ?_
        rintro _ ⟨M160, rfl, hJ161, hq162⟩
        have hJ163 := zJ_trans hJ159 hJ161 (zSub_cons (fun _ _ h h' hk => zIR_s (zIR_s (zIR_s (zIR_s (zIR_s (zIR_s (zIR_e (by omega) (by omega) hk))))))) zSub_nil)
        show ZW _ _ _ _ _ _ _ (71, [some (.ref 2), some (.int 1), some (.int x144), none], [], M160)
        refine w_ic dX5_readPart_71 zi_1 ?_
        refine w_en dX5_readPart_72 rfl ?_
        exact ⟨_, _, rfl, (by have := zt_1; omega), (by have := zt_1; omega), hJ163, trivial⟩
      · skip
        refine w_cge_t dX5_readPart_51 (t := 73) rfl (by have := zt_7; omega) ?_
        exact ih73 M141 x144 none hJ147 (by omega) (by omega) (by have := zt_1; omega)
    · skip
      refine w_ceq_t dX5_readPart_45 (t := 73) rfl (by have := zt_m1; omega) ?_
      exact ih73 M141 x144 none hJ147 (by omega) (by omega) (by have := zt_1; omega)
  · skip
    refine w_cne_f dX5_readPart_10 (t := 38) rfl (by have := zt_4; omega) ?_
    refine w_lo dX5_readPart_13 rfl rfl rfl rfl ?_
    obtain ⟨b164, f165, h166⟩ := zd_2_8 hJ0.1
    have h167 := zDm_b h166
    refine w_gf dX5_readPart_14 rfl hJ0.1.1 zs_2 f165 ?_
    refine w_gf dX5_readPart_17 rfl hJ0.1.1 (zs_1_0 h166) (zr_1_0_15 h166 hJ0.1) ?_
    refine w_lo dX5_readPart_20 rfl rfl rfl rfl ?_
    refine w_gf dX5_readPart_21 rfl hJ0.1.1 zs_2 (zr_2_4 hJ0.1) ?_
    refine w_lo dX5_readPart_24 rfl rfl rfl rfl ?_
    refine w_gf dX5_readPart_25 rfl hJ0.1.1 zs_2 f133 ?_
    refine w_iai dX5_readPart_28 hJ0.1 zs_5 (by omega) (by omega) zu_5 ?_
    intro x171 f168 h169 h170
    refine w_iv dX5_readPart_29 rfl rfl (As := [.int x171]) rfl rfl hJ0.1.1 (zs_1_13 h166) (Nat.le_of_ble_eq_true rfl) ?_
    refine ZV.imp (k_515 (b164 + 13) (zLw_of h166) x171 hN hJ0.1) ?_
    rintro _ ⟨M172, rfl, hJ173, hq174⟩
    have hJ175 := zJ_trans hJ0 hJ173 (zSub_cons (fun _ _ h h' hk => ((zDm_or h166).elim (fun e => zIR_s (zIR_s (zIR_e (by omega) (by omega) hk))) (fun e => zIR_s (zIR_s (zIR_s (zIR_e (by omega) (by omega) hk)))))) (zSub_cons (fun _ _ h h' hk => ((zDm_or h166).elim (fun e => zIR_s (zIR_s (zIR_s (zIR_s (zIR_a (by omega) (by omega)))))) (fun e => zIR_s (zIR_s (zIR_s (zIR_s (zIR_s (zIR_a (by omega) (by omega))))))))) zSub_nil))
    show ZW _ _ _ _ _ _ _ (32, [some (.ref 2), some (.int 1), none, none], [], M172)
    refine w_lo dX5_readPart_32 rfl rfl rfl rfl ?_
    refine w_iv dX5_readPart_33 rfl rfl (As := []) rfl rfl hJ175.1.1 zs_2 (Nat.le_of_ble_eq_true rfl) ?_
    refine ZV.imp (k_1289 hN hJ175.1) ?_
    rintro _ ⟨M176, rfl, hJ177, hq178⟩
    have hJ179 := zJ_trans hJ175 hJ177 (zSub_cons (fun _ _ h h' hk => zIR_s (zIR_s (zIR_s (zIR_s (zIR_s (zIR_s (zIR_e (by omega) (by omega) hk))))))) zSub_nil)
    show ZW _ _ _ _ _ _ _ (36, [some (.ref 2), some (.int 1), none, none], [], M176)
    refine w_ic dX5_readPart_36 zi_1 ?_
    refine w_en dX5_readPart_37 rfl ?_
    exact ⟨_, _, rfl, (by have := zt_1; omega), (by have := zt_1; omega), hJ179, trivial⟩
set_option maxRecDepth 100000 in
theorem k_1297_c1 {X : List Int32} {d N : Nat} {M0 : zM}  (hN : N ≤ 600) (hB0 : zB N M0) : ZV X (d + 17) 1297 [.ref 2, .int 1] M0 (zRI N [(2, 3, 0), (2, 3, 1), (20, 21, 1), (41, 42, 1), (21, 22, 1000), (42, 43, 1000), (2, 3, 7)] M0 (0) (1) (fun _ _ => True)) := by
  have hJ0 : zJ N [(2, 3, 0), (2, 3, 1), (20, 21, 1), (41, 42, 1), (21, 22, 1000), (42, 43, 1000), (2, 3, 7)] M0 M0 := zJ_refl hB0
  refine ZV.of (ini := false) rfl (Nat.le_of_ble_eq_true rfl) (by decide +kernel) ?_
  have main : ∀ n : Nat,
      (∀ (M : zM) (v4_2 : Int32) (v4_3 : Int32) (o4_4 : Option Value) (o4_5 : Option Value), zJ N [(2, 3, 0), (2, 3, 1), (20, 21, 1), (41, 42, 1), (21, 22, 1000), (42, 43, 1000), (2, 3, 7)] M0 M → ((-13 : Int) ≤ v4_2.toInt) → (v4_2.toInt ≤ 0) → ((0 : Int) ≤ v4_3.toInt) → (v4_3.toInt ≤ 1601) → 12832 * (1601 - v4_3.toInt) + 12830 < (n : Int) → ZW X (d + 16) 5 false (some .boolean) cX5_readSum (zRI N [(2, 3, 0), (2, 3, 1), (20, 21, 1), (41, 42, 1), (21, 22, 1000), (42, 43, 1000), (2, 3, 7)] M0 (0) (1) (fun _ _ => True)) (4, [some (.ref 2), some (.int 1), some (.int v4_2), some (.int v4_3), o4_4, o4_5], [], M)) ∧
      (∀ (M : zM) (v17_2 : Int32) (v17_3 : Int32) (v17_4 : Int32) (v17_5 : Int32), zJ N [(2, 3, 0), (2, 3, 1), (20, 21, 1), (41, 42, 1), (21, 22, 1000), (42, 43, 1000), (2, 3, 7)] M0 M → ((-2147483648 : Int) ≤ v17_2.toInt) → (v17_2.toInt ≤ 0) → ((0 : Int) ≤ v17_3.toInt) → (v17_3.toInt ≤ 1600) → ((-11 : Int) ≤ v17_4.toInt) → (v17_4.toInt ≤ 0) → ((0 : Int) ≤ v17_5.toInt) → (v17_5.toInt ≤ 1601) → 12832 * (1601 - v17_3.toInt) + 8 * (1601 - v17_5.toInt) + 5 < (n : Int) → ZW X (d + 16) 5 false (some .boolean) cX5_readSum (zRI N [(2, 3, 0), (2, 3, 1), (20, 21, 1), (41, 42, 1), (21, 22, 1000), (42, 43, 1000), (2, 3, 7)] M0 (0) (1) (fun _ _ => True)) (17, [some (.ref 2), some (.int 1), some (.int v17_2), some (.int v17_3), some (.int v17_4), some (.int v17_5)], [], M)) ∧
      (∀ (M : zM) (v52_2 : Int32) (v52_3 : Int32) (u52_4 : Int32) (v52_5 : Int32), zJ N [(2, 3, 0), (2, 3, 1), (20, 21, 1), (41, 42, 1), (21, 22, 1000), (42, 43, 1000), (2, 3, 7)] M0 M → ((-2147483648 : Int) ≤ v52_2.toInt) → (v52_2.toInt ≤ 0) → ((0 : Int) ≤ v52_3.toInt) → (v52_3.toInt ≤ 1600) → ((0 : Int) ≤ v52_5.toInt) → (v52_5.toInt ≤ 1600) → 12832 * (1601 - v52_3.toInt) + 8 * (1601 - v52_5.toInt) + 4 < (n : Int) → ZW X (d + 16) 5 false (some .boolean) cX5_readSum (zRI N [(2, 3, 0), (2, 3, 1), (20, 21, 1), (41, 42, 1), (21, 22, 1000), (42, 43, 1000), (2, 3, 7)] M0 (0) (1) (fun _ _ => True)) (52, [some (.ref 2), some (.int 1), some (.int v52_2), some (.int v52_3), some (.int u52_4), some (.int v52_5)], [], M)) ∧
      (∀ (M : zM) (v95_2 : Int32) (v95_3 : Int32) (u95_4 : Int32) (v95_5 : Int32) (s95_0 : Int32), zJ N [(2, 3, 0), (2, 3, 1), (20, 21, 1), (41, 42, 1), (21, 22, 1000), (42, 43, 1000), (2, 3, 7)] M0 M → ((-2147483648 : Int) ≤ v95_2.toInt) → (v95_2.toInt ≤ 0) → ((0 : Int) ≤ v95_3.toInt) → (v95_3.toInt ≤ 1600) → ((0 : Int) ≤ v95_5.toInt) → (v95_5.toInt ≤ 1600) → ((-11 : Int) ≤ s95_0.toInt) → (s95_0.toInt ≤ 0) → 12832 * (1601 - v95_3.toInt) + 8 * (1601 - v95_5.toInt) + 3 < (n : Int) → ZW X (d + 16) 5 false (some .boolean) cX5_readSum (zRI N [(2, 3, 0), (2, 3, 1), (20, 21, 1), (41, 42, 1), (21, 22, 1000), (42, 43, 1000), (2, 3, 7)] M0 (0) (1) (fun _ _ => True)) (95, [some (.ref 2), some (.int 1), some (.int v95_2), some (.int v95_3), some (.int u95_4), some (.int v95_5)], [.int s95_0], M)) ∧
      (∀ (M : zM) (v115_2 : Int32) (v115_3 : Int32) (u115_4 : Int32) (u115_5 : Int32), zJ N [(2, 3, 0), (2, 3, 1), (20, 21, 1), (41, 42, 1), (21, 22, 1000), (42, 43, 1000), (2, 3, 7)] M0 M → ((-2147483648 : Int) ≤ v115_2.toInt) → (v115_2.toInt ≤ 0) → ((0 : Int) ≤ v115_3.toInt) → (v115_3.toInt ≤ 1600) → 12832 * (1601 - v115_3.toInt) + 2 < (n : Int) → ZW X (d + 16) 5 false (some .boolean) cX5_readSum (zRI N [(2, 3, 0), (2, 3, 1), (20, 21, 1), (41, 42, 1), (21, 22, 1000), (42, 43, 1000), (2, 3, 7)] M0 (0) (1) (fun _ _ => True)) (115, [some (.ref 2), some (.int 1), some (.int v115_2), some (.int v115_3), some (.int u115_4), some (.int u115_5)], [], M)) ∧
      (∀ (M : zM) (u130_2 : Int32) (v130_3 : Int32) (u130_4 : Int32) (u130_5 : Int32), zJ N [(2, 3, 0), (2, 3, 1), (20, 21, 1), (41, 42, 1), (21, 22, 1000), (42, 43, 1000), (2, 3, 7)] M0 M → ((0 : Int) ≤ v130_3.toInt) → (v130_3.toInt ≤ 1600) → 12832 * (1601 - v130_3.toInt) + 1 < (n : Int) → ZW X (d + 16) 5 false (some .boolean) cX5_readSum (zRI N [(2, 3, 0), (2, 3, 1), (20, 21, 1), (41, 42, 1), (21, 22, 1000), (42, 43, 1000), (2, 3, 7)] M0 (0) (1) (fun _ _ => True)) (130, [some (.ref 2), some (.int 1), some (.int u130_2), some (.int v130_3), some (.int u130_4), some (.int u130_5)], [], M)) := by
    intro n
    induction n with
    | zero =>
      exact ⟨(fun M v4_2 v4_3 o4_4 o4_5 hJ v4_20 v4_21 v4_30 v4_31 hn => absurd hn (by omega)), (fun M v17_2 v17_3 v17_4 v17_5 hJ v17_20 v17_21 v17_30 v17_31 v17_40 v17_41 v17_50 v17_51 hn => absurd hn (by omega)), (fun M v52_2 v52_3 u52_4 v52_5 hJ v52_20 v52_21 v52_30 v52_31 v52_50 v52_51 hn => absurd hn (by omega)), (fun M v95_2 v95_3 u95_4 v95_5 s95_0 hJ v95_20 v95_21 v95_30 v95_31 v95_50 v95_51 s95_00 s95_01 hn => absurd hn (by omega)), (fun M v115_2 v115_3 u115_4 u115_5 hJ v115_20 v115_21 v115_30 v115_31 hn => absurd hn (by omega)), (fun M u130_2 v130_3 u130_4 u130_5 hJ v130_30 v130_31 hn => absurd hn (by omega))⟩
    | succ n ih =>
      obtain ⟨ih4, ih17, ih52, ih95, ih115, ih130⟩ := ih
      refine ⟨?_, ?_, ?_, ?_, ?_, ?_⟩
      · intro M v4_2 v4_3 o4_4 o4_5 hJ v4_20 v4_21 v4_30 v4_31 hn
        refine w_lo dX5_readSum_4 rfl rfl rfl rfl ?_
        refine w_si dX5_readSum_5 (c := 1600) (by decide) ?_
        rcases zcut (1600 : Int) v4_3.toInt with h1 | h1
        · skip
          refine w_cgt_t dX5_readSum_8 (t := 177) rfl (by have := zt_1600; omega) ?_
          refine w_ic dX5_readSum_177 zi_1 ?_
          refine w_en dX5_readSum_178 rfl ?_
          exact ⟨_, _, rfl, (by have := zt_1; omega), (by have := zt_1; omega), hJ, trivial⟩
        · skip
          refine w_cgt_f dX5_readSum_8 (t := 177) rfl (by have := zt_1600; omega) ?_
          refine w_ic dX5_readSum_11 zi_0 ?_
          refine w_lo (ml' := [some (.ref 2), some (.int 1), some (.int v4_2), some (.int v4_3), some (.int 0), o4_5]) dX5_readSum_12 rfl rfl rfl rfl ?_
          refine w_ic dX5_readSum_14 zi_0 ?_
          refine w_lo (ml' := [some (.ref 2), some (.int 1), some (.int v4_2), some (.int v4_3), some (.int 0), some (.int 0)]) dX5_readSum_15 rfl rfl rfl rfl ?_
          exact ih17 M v4_2 v4_3 0 0 hJ (zbot _) (by omega) (by omega) (by omega) (by have := zt_0; omega) (by have := zt_0; omega) (by have := zt_0; omega) (by have := zt_0; omega) (by have := zt_1; have := zt_0; omega)
      · intro M v17_2 v17_3 v17_4 v17_5 hJ v17_20 v17_21 v17_30 v17_31 v17_40 v17_41 v17_50 v17_51 hn
        refine w_lo dX5_readSum_17 rfl rfl rfl rfl ?_
        refine w_si dX5_readSum_19 (c := 1600) (by decide) ?_
        rcases zcut (1600 : Int) v17_5.toInt with h2 | h2
        · skip
          refine w_cgt_t dX5_readSum_22 (t := 115) rfl (by have := zt_1600; omega) ?_
          exact ih115 M v17_2 v17_3 v17_4 v17_5 hJ (zbot _) (by omega) (by omega) (by omega) (by have := zt_1; omega)
        · skip
          refine w_cgt_f dX5_readSum_22 (t := 115) rfl (by have := zt_1600; omega) ?_
          refine w_lo dX5_readSum_25 rfl rfl rfl rfl ?_
          refine w_lo dX5_readSum_26 rfl rfl rfl rfl ?_
          refine w_iv dX5_readSum_27 rfl rfl (As := [.int 1]) rfl rfl hJ.1.1 zs_2 (Nat.le_of_ble_eq_true rfl) ?_
          refine ZV.imp (k_1298_c1 hN hJ.1) ?_
          rintro _ ⟨x6, M3, rfl, h7, h8, hJ4, hq5⟩
          have hJ9 := zJ_trans hJ hJ4 (zSub_cons (fun _ _ h h' hk => zIR_e (by omega) (by omega) hk) (zSub_cons (fun _ _ h h' hk => zIR_s (zIR_e (by omega) (by omega) hk)) (zSub_cons (fun _ _ h h' hk => zIR_s (zIR_s (zIR_e (by omega) (by omega) hk))) (zSub_cons (fun _ _ h h' hk => zIR_s (zIR_s (zIR_s (zIR_e (by omega) (by omega) hk)))) (zSub_cons (fun _ _ h h' hk => zIR_s (zIR_s (zIR_s (zIR_s (zIR_a (by omega) (by omega)))))) (zSub_cons (fun _ _ h h' hk => zIR_s (zIR_s (zIR_s (zIR_s (zIR_s (zIR_a (by omega) (by omega))))))) (zSub_cons (fun _ _ h h' hk => zIR_s (zIR_s (zIR_s (zIR_s (zIR_s (zIR_s (zIR_e (by omega) (by omega) hk))))))) zSub_nil)))))))
          show ZW _ _ _ _ _ _ _ (30, [some (.ref 2), some (.int 1), some (.int v17_2), some (.int v17_3), some (.int v17_4), some (.int v17_5)], [.int x6], M3)
          rcases Int.decEq x6.toInt (0 : Int) with h10 | h10
          · skip
            refine w_ine_t dX5_readSum_30 (t := 35) rfl (by omega) ?_
            refine w_lo dX5_readSum_35 rfl rfl rfl rfl ?_
            rcases Int.decEq v17_4.toInt (0 : Int) with h11 | h11
            · skip
              refine w_ieq_f dX5_readSum_37 (t := 52) rfl (by omega) ?_
              refine w_lo dX5_readSum_40 rfl rfl rfl rfl ?_
              obtain ⟨b12, f13, h14⟩ := zd_2_8 hJ9.1
              have h15 := zDm_b h14
              refine w_gf dX5_readSum_41 rfl hJ9.1.1 zs_2 f13 ?_
              refine w_gf dX5_readSum_44 rfl hJ9.1.1 (zs_1_0 h14) (zr_1_0_15 h14 hJ9.1) ?_
              refine w_lo dX5_readSum_47 rfl rfl rfl rfl ?_
              refine w_iv dX5_readSum_49 rfl rfl (As := [.int v17_4]) rfl rfl hJ9.1.1 (zs_1_13 h14) (Nat.le_of_ble_eq_true rfl) ?_
              refine ZV.imp (k_515 (b12 + 13) (zLw_of h14) v17_4 hN hJ9.1) ?_
              rintro _ ⟨M16, rfl, hJ17, hq18⟩
              have hJ19 := zJ_trans hJ9 hJ17 (zSub_cons (fun _ _ h h' hk => ((zDm_or h14).elim (fun e => zIR_s (zIR_s (zIR_e (by omega) (by omega) hk))) (fun e => zIR_s (zIR_s (zIR_s (zIR_e (by omega) (by omega) hk)))))) (zSub_cons (fun _ _ h h' hk => ((zDm_or h14).elim (fun e => zIR_s (zIR_s (zIR_s (zIR_s (zIR_a (by omega) (by omega)))))) (fun e => zIR_s (zIR_s (zIR_s (zIR_s (zIR_s (zIR_a (by omega) (by omega))))))))) zSub_nil))
              show ZW _ _ _ _ _ _ _ (52, [some (.ref 2), some (.int 1), some (.int v17_2), some (.int v17_3), some (.int v17_4), some (.int v17_5)], [], M16)
              exact ih52 M16 v17_2 v17_3 v17_4 v17_5 hJ19 (zbot _) (by omega) (by omega) (by omega) (by omega) (by omega) (by have := zt_1; omega)
            · skip
              refine w_ieq_t dX5_readSum_37 (t := 52) rfl (by omega) ?_
              exact ih52 M3 v17_2 v17_3 v17_4 v17_5 hJ9 (zbot _) (by omega) (by omega) (by omega) (by omega) (by omega) (by have := zt_1; omega)
          · skip
            refine w_ine_f dX5_readSum_30 (t := 35) rfl (by omega) ?_
            refine w_ic dX5_readSum_33 zi_0 ?_
            refine w_en dX5_readSum_34 rfl ?_
            exact ⟨_, _, rfl, (by have := zt_0; omega), (by have := zt_0; omega), hJ9, trivial⟩
      · intro M v52_2 v52_3 u52_4 v52_5 hJ v52_20 v52_21 v52_30 v52_31 v52_50 v52_51 hn
        refine w_lo dX5_readSum_52 rfl rfl rfl rfl ?_
        refine w_bi dX5_readSum_53 (c := 42) (by decide) ?_
        refine w_iv dX5_readSum_55 rfl rfl (As := [.int 42]) rfl rfl hJ.1.1 zs_2 (Nat.le_of_ble_eq_true rfl) ?_
        refine ZV.imp (k_1299 42 (by have := zt_42; omega) (by have := zt_42; omega) hN hJ.1) ?_
        rintro _ ⟨x23, M20, rfl, h24, h25, hJ21, hq22⟩
        have hJ26 := zJ_trans hJ hJ21 zSub_nil
        show ZW _ _ _ _ _ _ _ (58, [some (.ref 2), some (.int 1), some (.int v52_2), some (.int v52_3), some (.int u52_4), some (.int v52_5)], [.int x23], M20)
        rcases Int.decEq x23.toInt (0 : Int) with h27 | h27
        · skip
          refine w_ieq_f dX5_readSum_58 (t := 66) rfl (by omega) ?_
          refine w_bi dX5_readSum_61 (c := (-9)) (by decide) ?_
          refine w_gt dX5_readSum_63 (t := 95) rfl ?_
          exact ih95 M20 v52_2 v52_3 u52_4 v52_5 (-9) hJ26 (zbot _) (by omega) (by omega) (by omega) (by omega) (by omega) (by have := zt_m9; omega) (by have := zt_m9; omega) (by have := zt_1; have := zt_m9; omega)
        · skip
          refine w_ieq_t dX5_readSum_58 (t := 66) rfl (by omega) ?_
          refine w_lo dX5_readSum_66 rfl rfl rfl rfl ?_
          refine w_bi dX5_readSum_67 (c := 47) (by decide) ?_
          refine w_iv dX5_readSum_69 rfl rfl (As := [.int 47]) rfl rfl hJ26.1.1 zs_2 (Nat.le_of_ble_eq_true rfl) ?_
          refine ZV.imp (k_1299 47 (by have := zt_47; omega) (by have := zt_47; omega) hN hJ26.1) ?_
          rintro _ ⟨x31, M28, rfl, h32, h33, hJ29, hq30⟩
          have hJ34 := zJ_trans hJ26 hJ29 zSub_nil
          show ZW _ _ _ _ _ _ _ (72, [some (.ref 2), some (.int 1), some (.int v52_2), some (.int v52_3), some (.int u52_4), some (.int v52_5)], [.int x31], M28)
          rcases Int.decEq x31.toInt (0 : Int) with h35 | h35
          · skip
            refine w_ieq_f dX5_readSum_72 (t := 80) rfl (by omega) ?_
            refine w_bi dX5_readSum_75 (c := (-10)) (by decide) ?_
            refine w_gt dX5_readSum_77 (t := 95) rfl ?_
            exact ih95 M28 v52_2 v52_3 u52_4 v52_5 (-10) hJ34 (zbot _) (by omega) (by omega) (by omega) (by omega) (by omega) (by have := zt_m10; omega) (by have := zt_m10; omega) (by have := zt_1; have := zt_m10; omega)
          · skip
            refine w_ieq_t dX5_readSum_72 (t := 80) rfl (by omega) ?_
            refine w_lo dX5_readSum_80 rfl rfl rfl rfl ?_
            refine w_bi dX5_readSum_81 (c := 37) (by decide) ?_
            refine w_iv dX5_readSum_83 rfl rfl (As := [.int 37]) rfl rfl hJ34.1.1 zs_2 (Nat.le_of_ble_eq_true rfl) ?_
            refine ZV.imp (k_1299 37 (by have := zt_37; omega) (by have := zt_37; omega) hN hJ34.1) ?_
            rintro _ ⟨x39, M36, rfl, h40, h41, hJ37, hq38⟩
            have hJ42 := zJ_trans hJ34 hJ37 zSub_nil
            show ZW _ _ _ _ _ _ _ (86, [some (.ref 2), some (.int 1), some (.int v52_2), some (.int v52_3), some (.int u52_4), some (.int v52_5)], [.int x39], M36)
            rcases Int.decEq x39.toInt (0 : Int) with h43 | h43
            · skip
              refine w_ieq_f dX5_readSum_86 (t := 94) rfl (by omega) ?_
              refine w_bi dX5_readSum_89 (c := (-11)) (by decide) ?_
              refine w_gt dX5_readSum_91 (t := 95) rfl ?_
              exact ih95 M36 v52_2 v52_3 u52_4 v52_5 (-11) hJ42 (zbot _) (by omega) (by omega) (by omega) (by omega) (by omega) (by have := zt_m11; omega) (by have := zt_m11; omega) (by have := zt_1; have := zt_m11; omega)
            · skip
              refine w_ieq_t dX5_readSum_86 (t := 94) rfl (by omega) ?_
              refine w_ic dX5_readSum_94 zi_0 ?_
              exact ih95 M36 v52_2 v52_3 u52_4 v52_5 0 hJ42 (zbot _) (by omega) (by omega) (by omega) (by omega) (by omega) (by have := zt_0; omega) (by have := zt_0; omega) (by have := zt_1; have := zt_0; omega)
      · intro M v95_2 v95_3 u95_4 v95_5 s95_0 hJ v95_20 v95_21 v95_30 v95_31 v95_50 v95_51 s95_00 s95_01 hn
        refine w_lo (ml' := [some (.ref 2), some (.int 1), some (.int v95_2), some (.int v95_3), some (.int s95_0), some (.int v95_5)]) dX5_readSum_95 rfl rfl rfl rfl ?_
        refine w_lo dX5_readSum_97 rfl rfl rfl rfl ?_
        rcases Int.decEq s95_0.toInt (0 : Int) with h44 | h44
        · skip
          refine w_ine_t dX5_readSum_99 (t := 105) rfl (by omega) ?_
          refine w_lo dX5_readSum_105 rfl rfl rfl rfl ?_
          refine w_iv dX5_readSum_106 rfl rfl (As := []) rfl rfl hJ.1.1 zs_2 (Nat.le_of_ble_eq_true rfl) ?_
          refine ZV.imp (k_1289 hN hJ.1) ?_
          rintro _ ⟨M45, rfl, hJ46, hq47⟩
          have hJ48 := zJ_trans hJ hJ46 (zSub_cons (fun _ _ h h' hk => zIR_s (zIR_s (zIR_s (zIR_s (zIR_s (zIR_s (zIR_e (by omega) (by omega) hk))))))) zSub_nil)
          show ZW _ _ _ _ _ _ _ (109, [some (.ref 2), some (.int 1), some (.int v95_2), some (.int v95_3), some (.int s95_0), some (.int v95_5)], [], M45)
          refine w_inc (kk := 5) dX5_readSum_109 rfl (m := 1) (by decide) (by omega) ?_
          intro x49 h50
          refine ⟨_, rfl, ?_⟩
          show ZW _ _ _ _ _ _ _ (112, [some (.ref 2), some (.int 1), some (.int v95_2), some (.int v95_3), some (.int s95_0), some (.int x49)], [], M45)
          refine w_gt dX5_readSum_112 (t := 17) rfl ?_
          exact ih17 M45 v95_2 v95_3 s95_0 x49 hJ48 (zbot _) (by omega) (by omega) (by omega) (by omega) (by omega) (by omega) (by omega) (by have := zt_1; omega)
        · skip
          refine w_ine_f dX5_readSum_99 (t := 105) rfl (by omega) ?_
          refine w_gt dX5_readSum_102 (t := 115) rfl ?_
          exact ih115 M v95_2 v95_3 s95_0 v95_5 hJ (zbot _) (by omega) (by omega) (by omega) (by have := zt_1; omega)
      · intro M v115_2 v115_3 u115_4 u115_5 hJ v115_20 v115_21 v115_30 v115_31 hn
        refine w_lo dX5_readSum_115 rfl rfl rfl rfl ?_
        rcases Int.decEq v115_2.toInt (0 : Int) with h51 | h51
        · skip
          refine w_ieq_f dX5_readSum_116 (t := 130) rfl (by omega) ?_
          refine w_lo dX5_readSum_119 rfl rfl rfl rfl ?_
          obtain ⟨b52, f53, h54⟩ := zd_2_8 hJ.1
          have h55 := zDm_b h54
          refine w_gf dX5_readSum_120 rfl hJ.1.1 zs_2 f53 ?_
          refine w_gf dX5_readSum_123 rfl hJ.1.1 (zs_1_0 h54) (zr_1_0_15 h54 hJ.1) ?_
          refine w_lo dX5_readSum_126 rfl rfl rfl rfl ?_
          refine w_iv dX5_readSum_127 rfl rfl (As := [.int v115_2]) rfl rfl hJ.1.1 (zs_1_13 h54) (Nat.le_of_ble_eq_true rfl) ?_
          refine ZV.imp (k_515 (b52 + 13) (zLw_of h54) v115_2 hN hJ.1) ?_
          rintro _ ⟨M56, rfl, hJ57, hq58⟩
          have hJ59 := zJ_trans hJ hJ57 (zSub_cons (fun _ _ h h' hk => ((zDm_or h54).elim (fun e => zIR_s (zIR_s (zIR_e (by omega) (by omega) hk))) (fun e => zIR_s (zIR_s (zIR_s (zIR_e (by omega) (by omega) hk)))))) (zSub_cons (fun _ _ h h' hk => ((zDm_or h54).elim (fun e => zIR_s (zIR_s (zIR_s (zIR_s (zIR_a (by omega) (by omega)))))) (fun e => zIR_s (zIR_s (zIR_s (zIR_s (zIR_s (zIR_a (by omega) (by omega))))))))) zSub_nil))
          show ZW _ _ _ _ _ _ _ (130, [some (.ref 2), some (.int 1), some (.int v115_2), some (.int v115_3), some (.int u115_4), some (.int u115_5)], [], M56)
          exact ih130 M56 v115_2 v115_3 u115_4 u115_5 hJ59 (by omega) (by omega) (by have := zt_1; omega)
        · skip
          refine w_ieq_t dX5_readSum_116 (t := 130) rfl (by omega) ?_
          exact ih130 M v115_2 v115_3 u115_4 u115_5 hJ (by omega) (by omega) (by have := zt_1; omega)
      · intro M u130_2 v130_3 u130_4 u130_5 hJ v130_30 v130_31 hn
        refine w_lo dX5_readSum_130 rfl rfl rfl rfl ?_
        refine w_bi dX5_readSum_131 (c := 43) (by decide) ?_
        refine w_iv dX5_readSum_133 rfl rfl (As := [.int 43]) rfl rfl hJ.1.1 zs_2 (Nat.le_of_ble_eq_true rfl) ?_
        refine ZV.imp (k_1299 43 (by have := zt_43; omega) (by have := zt_43; omega) hN hJ.1) ?_
        rintro _ ⟨x63, M60, rfl, h64, h65, hJ61, hq62⟩
        have hJ66 := zJ_trans hJ hJ61 zSub_nil
        show ZW _ _ _ _ _ _ _ (136, [some (.ref 2), some (.int 1), some (.int u130_2), some (.int v130_3), some (.int u130_4), some (.int u130_5)], [.int x63], M60)
        rcases Int.decEq x63.toInt (0 : Int) with h67 | h67
        · skip
          refine w_ieq_f dX5_readSum_136 (t := 144) rfl (by omega) ?_
          refine w_bi dX5_readSum_139 (c := (-12)) (by decide) ?_
          refine w_gt dX5_readSum_141 (t := 159) rfl ?_
          refine w_lo (ml' := [some (.ref 2), some (.int 1), some (.int (-12)), some (.int v130_3), some (.int u130_4), some (.int u130_5)]) dX5_readSum_159 rfl rfl rfl rfl ?_
          refine w_lo dX5_readSum_160 rfl rfl rfl rfl ?_
          refine w_ine_t dX5_readSum_161 (t := 167) rfl (by have := zt_m12; omega) ?_
          refine w_lo dX5_readSum_167 rfl rfl rfl rfl ?_
          refine w_iv dX5_readSum_168 rfl rfl (As := []) rfl rfl hJ66.1.1 zs_2 (Nat.le_of_ble_eq_true rfl) ?_
          refine ZV.imp (k_1289 hN hJ66.1) ?_
          rintro _ ⟨M68, rfl, hJ69, hq70⟩
          have hJ71 := zJ_trans hJ66 hJ69 (zSub_cons (fun _ _ h h' hk => zIR_s (zIR_s (zIR_s (zIR_s (zIR_s (zIR_s (zIR_e (by omega) (by omega) hk))))))) zSub_nil)
          show ZW _ _ _ _ _ _ _ (171, [some (.ref 2), some (.int 1), some (.int (-12)), some (.int v130_3), some (.int u130_4), some (.int u130_5)], [], M68)
          refine w_inc (kk := 3) dX5_readSum_171 rfl (m := 1) (by decide) (by omega) ?_
          intro x72 h73
          refine ⟨_, rfl, ?_⟩
          show ZW _ _ _ _ _ _ _ (174, [some (.ref 2), some (.int 1), some (.int (-12)), some (.int x72), some (.int u130_4), some (.int u130_5)], [], M68)
          refine w_gt dX5_readSum_174 (t := 4) rfl ?_
          exact ih4 M68 (-12) x72 (some (.int u130_4)) (some (.int u130_5)) hJ71 (by have := zt_m12; omega) (by have := zt_m12; omega) (by omega) (by omega) (by have := zt_1; have := zt_m12; omega)
        · skip
          refine w_ieq_t dX5_readSum_136 (t := 144) rfl (by omega) ?_
          refine w_lo dX5_readSum_144 rfl rfl rfl rfl ?_
          refine w_bi dX5_readSum_145 (c := 45) (by decide) ?_
          refine w_iv dX5_readSum_147 rfl rfl (As := [.int 45]) rfl rfl hJ66.1.1 zs_2 (Nat.le_of_ble_eq_true rfl) ?_
          refine ZV.imp (k_1299 45 (by have := zt_45; omega) (by have := zt_45; omega) hN hJ66.1) ?_
          rintro _ ⟨x77, M74, rfl, h78, h79, hJ75, hq76⟩
          have hJ80 := zJ_trans hJ66 hJ75 zSub_nil
          show ZW _ _ _ _ _ _ _ (150, [some (.ref 2), some (.int 1), some (.int u130_2), some (.int v130_3), some (.int u130_4), some (.int u130_5)], [.int x77], M74)
          rcases Int.decEq x77.toInt (0 : Int) with h81 | h81
          · skip
            refine w_ieq_f dX5_readSum_150 (t := 158) rfl (by omega) ?_
            refine w_bi dX5_readSum_153 (c := (-13)) (by decide) ?_
            refine w_gt dX5_readSum_155 (t := 159) rfl ?_
            refine w_lo (ml' := [some (.ref 2), some (.int 1), some (.int (-13)), some (.int v130_3), some (.int u130_4), some (.int u130_5)]) dX5_readSum_159 rfl rfl rfl rfl ?_
            refine w_lo dX5_readSum_160 rfl rfl rfl rfl ?_
            refine w_ine_t dX5_readSum_161 (t := 167) rfl (by have := zt_m13; omega) ?_
            refine w_lo dX5_readSum_167 rfl rfl rfl rfl ?_
            refine w_iv dX5_readSum_168 rfl rfl (As := []) rfl rfl hJ80.1.1 zs_2 (Nat.le_of_ble_eq_true rfl) ?_
            refine ZV.imp (k_1289 hN hJ80.1) ?_
            rintro _ ⟨M82, rfl, hJ83, hq84⟩
            have hJ85 := zJ_trans hJ80 hJ83 (zSub_cons (fun _ _ h h' hk => zIR_s (zIR_s (zIR_s (zIR_s (zIR_s (zIR_s (zIR_e (by omega) (by omega) hk))))))) zSub_nil)
            show ZW _ _ _ _ _ _ _ (171, [some (.ref 2), some (.int 1), some (.int (-13)), some (.int v130_3), some (.int u130_4), some (.int u130_5)], [], M82)
            refine w_inc (kk := 3) dX5_readSum_171 rfl (m := 1) (by decide) (by omega) ?_
            intro x86 h87
            refine ⟨_, rfl, ?_⟩
            show ZW _ _ _ _ _ _ _ (174, [some (.ref 2), some (.int 1), some (.int (-13)), some (.int x86), some (.int u130_4), some (.int u130_5)], [], M82)
            refine w_gt dX5_readSum_174 (t := 4) rfl ?_
            exact ih4 M82 (-13) x86 (some (.int u130_4)) (some (.int u130_5)) hJ85 (by have := zt_m13; omega) (by have := zt_m13; omega) (by omega) (by omega) (by have := zt_1; have := zt_m13; omega)
          · skip
            refine w_ieq_t dX5_readSum_150 (t := 158) rfl (by omega) ?_
            refine w_ic dX5_readSum_158 zi_0 ?_
            refine w_lo (ml' := [some (.ref 2), some (.int 1), some (.int 0), some (.int v130_3), some (.int u130_4), some (.int u130_5)]) dX5_readSum_159 rfl rfl rfl rfl ?_
            refine w_lo dX5_readSum_160 rfl rfl rfl rfl ?_
            refine w_ine_f dX5_readSum_161 (t := 167) rfl (by have := zt_0; omega) ?_
            refine w_gt dX5_readSum_164 (t := 177) rfl ?_
            refine w_ic dX5_readSum_177 zi_1 ?_
            refine w_en dX5_readSum_178 rfl ?_
            exact ⟨_, _, rfl, (by have := zt_1; omega), (by have := zt_1; omega), hJ80, trivial⟩
  obtain ⟨ih4, ih17, ih52, ih95, ih115, ih130⟩ := main 20582531
  show ZW _ _ _ _ _ _ _ (0, [some (.ref 2), some (.int 1), none, none, none, none], [], M0)
  refine w_ic dX5_readSum_0 zi_0 ?_
  refine w_lo (ml' := [some (.ref 2), some (.int 1), some (.int 0), none, none, none]) dX5_readSum_1 rfl rfl rfl rfl ?_
  refine w_ic dX5_readSum_2 zi_0 ?_
  refine w_lo (ml' := [some (.ref 2), some (.int 1), some (.int 0), some (.int 0), none, none]) dX5_readSum_3 rfl rfl rfl rfl ?_
  exact ih4 M0 0 0 none none hJ0 (by have := zt_0; omega) (by have := zt_0; omega) (by have := zt_0; omega) (by have := zt_0; omega) (by have := zt_1; have := zt_0; omega)
set_option maxRecDepth 100000 in
theorem k_1298_c0 {X : List Int32} {d N : Nat} {M0 : zM}  (hN : N ≤ 600) (hB0 : zB N M0) : ZV X (d + 18) 1298 [.ref 2, .int 0] M0 (zRI N [(2, 3, 0), (2, 3, 1), (20, 21, 1), (41, 42, 1), (21, 22, 1000), (42, 43, 1000), (2, 3, 7)] M0 (0) (1) (fun _ _ => True)) := by
  have hJ0 : zJ N [(2, 3, 0), (2, 3, 1), (20, 21, 1), (41, 42, 1), (21, 22, 1000), (42, 43, 1000), (2, 3, 7)] M0 M0 := zJ_refl hB0
  refine ZV.of (ini := false) rfl (Nat.le_of_ble_eq_true rfl) (by decide +kernel) ?_
  have main : ∀ n : Nat,
      (∀ (M : zM) (v73_2 : Int32) (o73_3 : Option Value), zJ N [(2, 3, 0), (2, 3, 1), (20, 21, 1), (41, 42, 1), (21, 22, 1000), (42, 43, 1000), (2, 3, 7)] M0 M → ((-1 : Int) ≤ v73_2.toInt) → (v73_2.toInt ≤ 26) → 3 < (n : Int) → ZW X (d + 17) 5 false (some .boolean) cX5_readPart (zRI N [(2, 3, 0), (2, 3, 1), (20, 21, 1), (41, 42, 1), (21, 22, 1000), (42, 43, 1000), (2, 3, 7)] M0 (0) (1) (fun _ _ => True)) (73, [some (.ref 2), some (.int 0), some (.int v73_2), o73_3], [], M)) ∧
      (∀ (M : zM) (v85_2 : Int32) (o85_3 : Option Value), zJ N [(2, 3, 0), (2, 3, 1), (20, 21, 1), (41, 42, 1), (21, 22, 1000), (42, 43, 1000), (2, 3, 7)] M0 M → ((25 : Int) ≤ v85_2.toInt) → (v85_2.toInt ≤ 26) → 2 < (n : Int) → ZW X (d + 17) 5 false (some .boolean) cX5_readPart (zRI N [(2, 3, 0), (2, 3, 1), (20, 21, 1), (41, 42, 1), (21, 22, 1000), (42, 43, 1000), (2, 3, 7)] M0 (0) (1) (fun _ _ => True)) (85, [some (.ref 2), some (.int 0), some (.int v85_2), o85_3], [], M)) ∧
      (∀ (M : zM) (v99_2 : Int32) (v99_3 : Int32), zJ N [(2, 3, 0), (2, 3, 1), (20, 21, 1), (41, 42, 1), (21, 22, 1000), (42, 43, 1000), (2, 3, 7)] M0 M → ((-1 : Int) ≤ v99_2.toInt) → (v99_2.toInt ≤ 26) → ((0 : Int) ≤ v99_3.toInt) → (v99_3.toInt ≤ 1) → 1 < (n : Int) → ZW X (d + 17) 5 false (some .boolean) cX5_readPart (zRI N [(2, 3, 0), (2, 3, 1), (20, 21, 1), (41, 42, 1), (21, 22, 1000), (42, 43, 1000), (2, 3, 7)] M0 (0) (1) (fun _ _ => True)) (99, [some (.ref 2), some (.int 0), some (.int v99_2), some (.int v99_3)], [], M)) := by
    intro n
    induction n with
    | zero =>
      exact ⟨(fun M v73_2 o73_3 hJ v73_20 v73_21 hn => absurd hn (by omega)), (fun M v85_2 o85_3 hJ v85_20 v85_21 hn => absurd hn (by omega)), (fun M v99_2 v99_3 hJ v99_20 v99_21 v99_30 v99_31 hn => absurd hn (by omega))⟩
    | succ n ih =>
      obtain ⟨ih73, ih85, ih99⟩ := ih
      refine ⟨?_, ?_, ?_⟩
      · intro M v73_2 o73_3 hJ v73_20 v73_21 hn
        refine w_lo dX5_readPart_73 rfl rfl rfl rfl ?_
        refine w_bi dX5_readPart_74 (c := 25) (by decide) ?_
        rcases Int.decEq v73_2.toInt (25 : Int) with h1 | h1
        · skip
          refine w_ceq_f dX5_readPart_76 (t := 85) rfl (by have := zt_25; omega) ?_
          refine w_lo dX5_readPart_79 rfl rfl rfl rfl ?_
          refine w_bi dX5_readPart_80 (c := 26) (by decide) ?_
          rcases Int.decEq v73_2.toInt (26 : Int) with h2 | h2
          · skip
            refine w_cne_t dX5_readPart_82 (t := 89) rfl (by have := zt_26; omega) ?_
            refine w_ic dX5_readPart_89 zi_0 ?_
            refine w_lo (ml' := [some (.ref 2), some (.int 0), some (.int v73_2), some (.int 0)]) dX5_readPart_90 rfl rfl rfl rfl ?_
            refine w_lo dX5_readPart_91 rfl rfl rfl rfl ?_
            refine w_ieq_t dX5_readPart_92 (t := 99) rfl (by have := zt_0; omega) ?_
            exact ih99 M v73_2 0 hJ (by omega) (by omega) (by have := zt_0; omega) (by have := zt_0; omega) (by have := zt_0; omega)
          · skip
            refine w_cne_f dX5_readPart_82 (t := 89) rfl (by have := zt_26; omega) ?_
            exact ih85 M v73_2 o73_3 hJ (by omega) (by omega) (by have := zt_0; omega)
        · skip
          refine w_ceq_t dX5_readPart_76 (t := 85) rfl (by have := zt_25; omega) ?_
          exact ih85 M v73_2 o73_3 hJ (by omega) (by omega) (by have := zt_0; omega)
      · intro M v85_2 o85_3 hJ v85_20 v85_21 hn
        refine w_ic dX5_readPart_85 zi_1 ?_
        refine w_gt dX5_readPart_86 (t := 90) rfl ?_
        refine w_lo (ml' := [some (.ref 2), some (.int 0), some (.int v85_2), some (.int 1)]) dX5_readPart_90 rfl rfl rfl rfl ?_
        refine w_lo dX5_readPart_91 rfl rfl rfl rfl ?_
        refine w_ieq_f dX5_readPart_92 (t := 99) rfl (by have := zt_1; omega) ?_
        refine w_lo dX5_readPart_95 rfl rfl rfl rfl ?_
        refine w_iv dX5_readPart_96 rfl rfl (As := []) rfl rfl hJ.1.1 zs_2 (Nat.le_of_ble_eq_true rfl) ?_
        refine ZV.imp (k_1289 hN hJ.1) ?_
        rintro _ ⟨M3, rfl, hJ4, hq5⟩
        have hJ6 := zJ_trans hJ hJ4 (zSub_cons (fun _ _ h h' hk => zIR_s (zIR_s (zIR_s (zIR_s (zIR_s (zIR_s (zIR_e (by omega) (by omega) hk))))))) zSub_nil)
        show ZW _ _ _ _ _ _ _ (99, [some (.ref 2), some (.int 0), some (.int v85_2), some (.int 1)], [], M3)
        exact ih99 M3 v85_2 1 hJ6 (by omega) (by omega) (by have := zt_1; omega) (by have := zt_1; omega) (by have := zt_0; have := zt_1; omega)
      · intro M v99_2 v99_3 hJ v99_20 v99_21 v99_30 v99_31 hn
        refine w_lo dX5_readPart_99 rfl rfl rfl rfl ?_
        refine w_bi dX5_readPart_100 (c := 40) (by decide) ?_
        refine w_iv dX5_readPart_102 rfl rfl (As := [.int 40]) rfl rfl hJ.1.1 zs_2 (Nat.le_of_ble_eq_true rfl) ?_
        refine ZV.imp (k_1299 40 (by have := zt_40; omega) (by have := zt_40; omega) hN hJ.1) ?_
        rintro _ ⟨x10, M7, rfl, h11, h12, hJ8, hq9⟩
        have hJ13 := zJ_trans hJ hJ8 zSub_nil
        show ZW _ _ _ _ _ _ _ (105, [some (.ref 2), some (.int 0), some (.int v99_2), some (.int v99_3)], [.int x10], M7)
        rcases Int.decEq x10.toInt (0 : Int) with h14 | h14
        · skip
          refine w_ine_t dX5_readPart_105 (t := 114) rfl (by omega) ?_
          refine w_lo dX5_readPart_114 rfl rfl rfl rfl ?_
          refine w_bi dX5_readPart_115 (c := 8) (by decide) ?_
          refine w_clt_t dX5_readPart_117 (t := 126) rfl (by have := zt_0; have := zt_8; omega) ?_
          refine w_lo dX5_readPart_126 rfl rfl rfl rfl ?_
          refine w_iv dX5_readPart_127 rfl rfl (As := []) rfl rfl hJ13.1.1 zs_2 (Nat.le_of_ble_eq_true rfl) ?_
          refine ZV.imp (k_1289 hN hJ13.1) ?_
          rintro _ ⟨M15, rfl, hJ16, hq17⟩
          have hJ18 := zJ_trans hJ13 hJ16 (zSub_cons (fun _ _ h h' hk => zIR_s (zIR_s (zIR_s (zIR_s (zIR_s (zIR_s (zIR_e (by omega) (by omega) hk))))))) zSub_nil)
          show ZW _ _ _ _ _ _ _ (130, [some (.ref 2), some (.int 0), some (.int v99_2), some (.int v99_3)], [], M15)
          refine w_lo dX5_readPart_130 rfl rfl rfl rfl ?_
          refine w_lo dX5_readPart_131 rfl rfl rfl rfl ?_
          refine w_ic dX5_readPart_132 zi_1 ?_
          refine w_pu (st' := [.int 1, .ref 2]) dX5_readPart_133 rfl rfl ?_
          refine w_iv dX5_readPart_134 rfl rfl (As := [.int 1]) rfl rfl hJ18.1.1 zs_2 (Nat.le_of_ble_eq_true rfl) ?_
          refine ZV.imp (k_1297_c1 hN hJ18.1) ?_
          rintro _ ⟨x22, M19, rfl, h23, h24, hJ20, hq21⟩
          have hJ25 := zJ_trans hJ18 hJ20 (zSub_cons (fun _ _ h h' hk => zIR_e (by omega) (by omega) hk) (zSub_cons (fun _ _ h h' hk => zIR_s (zIR_e (by omega) (by omega) hk)) (zSub_cons (fun _ _ h h' hk => zIR_s (zIR_s (zIR_e (by omega) (by omega) hk))) (zSub_cons (fun _ _ h h' hk => zIR_s (zIR_s (zIR_s (zIR_e (by omega) (by omega) hk)))) (zSub_cons (fun _ _ h h' hk => zIR_s (zIR_s (zIR_s (zIR_s (zIR_a (by omega) (by omega)))))) (zSub_cons (fun _ _ h h' hk => zIR_s (zIR_s (zIR_s (zIR_s (zIR_s (zIR_a (by omega) (by omega))))))) (zSub_cons (fun _ _ h h' hk => zIR_s (zIR_s (zIR_s (zIR_s (zIR_s (zIR_s (zIR_e (by omega) (by omega) hk))))))) zSub_nil)))))))
          show ZW _ _ _ _ _ _ _ (137, [some (.ref 2), some (.int 0), some (.int v99_2), some (.int v99_3)], [.int x22], M19)
          rcases Int.decEq x22.toInt (0 : Int) with h26 | h26
          · skip
            refine w_ine_t dX5_readPart_137 (t := 142) rfl (by omega) ?_
            refine w_lo dX5_readPart_142 rfl rfl rfl rfl ?_
            rcases Int.decEq v99_3.toInt (0 : Int) with h27 | h27
            · skip
              refine w_ieq_f dX5_readPart_143 (t := 200) rfl (by omega) ?_
              refine w_lo dX5_readPart_146 rfl rfl rfl rfl ?_
              refine w_bi dX5_readPart_147 (c := 44) (by decide) ?_
              refine w_iv dX5_readPart_149 rfl rfl (As := [.int 44]) rfl rfl hJ25.1.1 zs_2 (Nat.le_of_ble_eq_true rfl) ?_
              refine ZV.imp (k_1299 44 (by have := zt_44; omega) (by have := zt_44; omega) hN hJ25.1) ?_
              rintro _ ⟨x31, M28, rfl, h32, h33, hJ29, hq30⟩
              have hJ34 := zJ_trans hJ25 hJ29 zSub_nil
              show ZW _ _ _ _ _ _ _ (152, [some (.ref 2), some (.int 0), some (.int v99_2), some (.int v99_3)], [.int x31], M28)
              rcases Int.decEq x31.toInt (0 : Int) with h35 | h35
              · skip
                refine w_ine_t dX5_readPart_152 (t := 161) rfl (by omega) ?_
                refine w_lo dX5_readPart_161 rfl rfl rfl rfl ?_
                refine w_iv dX5_readPart_162 rfl rfl (As := []) rfl rfl hJ34.1.1 zs_2 (Nat.le_of_ble_eq_true rfl) ?_
                refine ZV.imp (k_1289 hN hJ34.1) ?_
                rintro _ ⟨M36, rfl, hJ37, hq38⟩
                have hJ39 := zJ_trans hJ34 hJ37 (zSub_cons (fun _ _ h h' hk => zIR_s (zIR_s (zIR_s (zIR_s (zIR_s (zIR_s (zIR_e (by omega) (by omega) hk))))))) zSub_nil)
                show ZW _ _ _ _ _ _ _ (165, [some (.ref 2), some (.int 0), some (.int v99_2), some (.int v99_3)], [], M36)
                refine w_lo dX5_readPart_165 rfl rfl rfl rfl ?_
                refine w_lo dX5_readPart_166 rfl rfl rfl rfl ?_
                refine w_ic dX5_readPart_167 zi_1 ?_
                refine w_pu (st' := [.int 1, .ref 2]) dX5_readPart_168 rfl rfl ?_
                refine w_iv dX5_readPart_169 rfl rfl (As := [.int 1]) rfl rfl hJ39.1.1 zs_2 (Nat.le_of_ble_eq_true rfl) ?_
                refine ZV.imp (k_1297_c1 hN hJ39.1) ?_
                rintro _ ⟨x43, M40, rfl, h44, h45, hJ41, hq42⟩
                have hJ46 := zJ_trans hJ39 hJ41 (zSub_cons (fun _ _ h h' hk => zIR_e (by omega) (by omega) hk) (zSub_cons (fun _ _ h h' hk => zIR_s (zIR_e (by omega) (by omega) hk)) (zSub_cons (fun _ _ h h' hk => zIR_s (zIR_s (zIR_e (by omega) (by omega) hk))) (zSub_cons (fun _ _ h h' hk => zIR_s (zIR_s (zIR_s (zIR_e (by omega) (by omega) hk)))) (zSub_cons (fun _ _ h h' hk => zIR_s (zIR_s (zIR_s (zIR_s (zIR_a (by omega) (by omega)))))) (zSub_cons (fun _ _ h h' hk => zIR_s (zIR_s (zIR_s (zIR_s (zIR_s (zIR_a (by omega) (by omega))))))) (zSub_cons (fun _ _ h h' hk => zIR_s (zIR_s (zIR_s (zIR_s (zIR_s (zIR_s (zIR_e (by omega) (by omega) hk))))))) zSub_nil)))))))
                show ZW _ _ _ _ _ _ _ (172, [some (.ref 2), some (.int 0), some (.int v99_2), some (.int v99_3)], [.int x43], M40)
                rcases Int.decEq x43.toInt (0 : Int) with h47 | h47
                · skip
                  refine w_ine_t dX5_readPart_172 (t := 177) rfl (by omega) ?_
                  refine w_lo dX5_readPart_177 rfl rfl rfl rfl ?_
                  obtain ⟨b48, f49, h50⟩ := zd_2_8 hJ46.1
                  have h51 := zDm_b h50
                  refine w_gf dX5_readPart_178 rfl hJ46.1.1 zs_2 f49 ?_
                  refine w_gf dX5_readPart_181 rfl hJ46.1.1 (zs_1_0 h50) (zr_1_0_15 h50 hJ46.1) ?_
                  refine w_lo dX5_readPart_184 rfl rfl rfl rfl ?_
                  refine w_bi dX5_readPart_185 (c := 25) (by decide) ?_
                  rcases Int.decEq v99_2.toInt (25 : Int) with h52 | h52
                  · skip
                    refine w_cne_t dX5_readPart_187 (t := 195) rfl (by have := zt_25; omega) ?_
                    refine w_bi dX5_readPart_195 (c := (-20)) (by decide) ?_
                    refine w_iv dX5_readPart_197 rfl rfl (As := [.int (-20)]) rfl rfl hJ46.1.1 (zs_1_13 h50) (Nat.le_of_ble_eq_true rfl) ?_
                    refine ZV.imp (k_515 (b48 + 13) (zLw_of h50) (-20) hN hJ46.1) ?_
                    rintro _ ⟨M53, rfl, hJ54, hq55⟩
                    have hJ56 := zJ_trans hJ46 hJ54 (zSub_cons (fun _ _ h h' hk => ((zDm_or h50).elim (fun e => zIR_s (zIR_s (zIR_e (by omega) (by omega) hk))) (fun e => zIR_s (zIR_s (zIR_s (zIR_e (by omega) (by omega) hk)))))) (zSub_cons (fun _ _ h h' hk => ((zDm_or h50).elim (fun e => zIR_s (zIR_s (zIR_s (zIR_s (zIR_a (by omega) (by omega)))))) (fun e => zIR_s (zIR_s (zIR_s (zIR_s (zIR_s (zIR_a (by omega) (by omega))))))))) zSub_nil))
                    show ZW _ _ _ _ _ _ _ (200, [some (.ref 2), some (.int 0), some (.int v99_2), some (.int v99_3)], [], M53)
                    refine w_lo dX5_readPart_200 rfl rfl rfl rfl ?_
                    refine w_bi dX5_readPart_201 (c := 41) (by decide) ?_
                    refine w_iv dX5_readPart_203 rfl rfl (As := [.int 41]) rfl rfl hJ56.1.1 zs_2 (Nat.le_of_ble_eq_true rfl) ?_
                    refine ZV.imp (k_1299 41 (by have := zt_41; omega) (by have := zt_41; omega) hN hJ56.1) ?_
                    rintro _ ⟨x60, M57, rfl, h61, h62, hJ58, hq59⟩
                    have hJ63 := zJ_trans hJ56 hJ58 zSub_nil
                    show ZW _ _ _ _ _ _ _ (206, [some (.ref 2), some (.int 0), some (.int v99_2), some (.int v99_3)], [.int x60], M57)
                    rcases Int.decEq x60.toInt (0 : Int) with h64 | h64
                    · skip
                      refine w_ine_t dX5_readPart_206 (t := 215) rfl (by omega) ?_
                      refine w_lo dX5_readPart_215 rfl rfl rfl rfl ?_
                      refine w_iv dX5_readPart_216 rfl rfl (As := []) rfl rfl hJ63.1.1 zs_2 (Nat.le_of_ble_eq_true rfl) ?_
                      refine ZV.imp (k_1289 hN hJ63.1) ?_
                      rintro _ ⟨M65, rfl, hJ66, hq67⟩
                      have hJ68 := zJ_trans hJ63 hJ66 (zSub_cons (fun _ _ h h' hk => zIR_s (zIR_s (zIR_s (zIR_s (zIR_s (zIR_s (zIR_e (by omega) (by omega) hk))))))) zSub_nil)
                      show ZW _ _ _ _ _ _ _ (219, [some (.ref 2), some (.int 0), some (.int v99_2), some (.int v99_3)], [], M65)
                      refine w_ic dX5_readPart_219 zi_1 ?_
                      refine w_en dX5_readPart_220 rfl ?_
                      exact ⟨_, _, rfl, (by have := zt_1; omega), (by have := zt_1; omega), hJ68, trivial⟩
                    · skip
                      refine w_ine_f dX5_readPart_206 (t := 215) rfl (by omega) ?_
                      refine w_lo dX5_readPart_209 rfl rfl rfl rfl ?_
                      refine w_ic dX5_readPart_210 zi_1 ?_
                      refine w_iv dX5_readPart_211 rfl rfl (As := [.int 1]) rfl rfl hJ63.1.1 zs_2 (Nat.le_of_ble_eq_true rfl) ?_
                      refine ZV.imp (k_1286 1 (by have := zt_1; omega) (by have := zt_1; omega) hN hJ63.1) ?_
                      rintro _ ⟨x72, M69, rfl, h73, h74, hJ70, hq71⟩
                      have hJ75 := zJ_trans hJ63 hJ70 (zSub_cons (fun _ _ h h' hk => zIR_e (by omega) (by omega) hk) (zSub_cons (fun _ _ h h' hk => zIR_s (zIR_e (by omega) (by omega) hk)) zSub_nil))
                      show ZW _ _ _ _ _ _ _ (214, [some (.ref 2), some (.int 0), some (.int v99_2), some (.int v99_3)], [.int x72], M69)
                      refine w_eni dX5_readPart_214 rfl (znb (by omega) (by omega)) ?_
                      exact ⟨_, _, rfl, (by omega), (by omega), hJ75, trivial⟩
                  · skip
                    refine w_cne_f dX5_readPart_187 (t := 195) rfl (by have := zt_25; omega) ?_
                    refine w_bi dX5_readPart_190 (c := (-19)) (by decide) ?_
                    refine w_gt dX5_readPart_192 (t := 197) rfl ?_
                    refine w_iv dX5_readPart_197 rfl rfl (As := [.int (-19)]) rfl rfl hJ46.1.1 (zs_1_13 h50) (Nat.le_of_ble_eq_true rfl) ?_
                    refine ZV.imp (k_515 (b48 + 13) (zLw_of h50) (-19) hN hJ46.1) ?_
                    rintro _ ⟨M76, rfl, hJ77, hq78⟩
                    have hJ79 := zJ_trans hJ46 hJ77 (zSub_cons (fun _ _ h h' hk => ((zDm_or h50).elim (fun e => zIR_s (zIR_s (zIR_e (by omega) (by omega) hk))) (fun e => zIR_s (zIR_s (zIR_s (zIR_e (by omega) (by omega) hk)))))) (zSub_cons (fun _ _ h h' hk => ((zDm_or h50).elim (fun e => zIR_s (zIR_s (zIR_s (zIR_s (zIR_a (by omega) (by omega)))))) (fun e => zIR_s (zIR_s (zIR_s (zIR_s (zIR_s (zIR_a (by omega) (by omega))))))))) zSub_nil))
                    show ZW _ _ _ _ _ _ _ (200, [some (.ref 2), some (.int 0), some (.int v99_2), some (.int v99_3)], [], M76)
                    refine w_lo dX5_readPart_200 rfl rfl rfl rfl ?_
                    refine w_bi dX5_readPart_201 (c := 41) (by decide) ?_
                    refine w_iv dX5_readPart_203 rfl rfl (As := [.int 41]) rfl rfl hJ79.1.1 zs_2 (Nat.le_of_ble_eq_true rfl) ?_
                    refine ZV.imp (k_1299 41 (by have := zt_41; omega) (by have := zt_41; omega) hN hJ79.1) ?_
                    rintro _ ⟨x83, M80, rfl, h84, h85, hJ81, hq82⟩
                    have hJ86 := zJ_trans hJ79 hJ81 zSub_nil
                    show ZW _ _ _ _ _ _ _ (206, [some (.ref 2), some (.int 0), some (.int v99_2), some (.int v99_3)], [.int x83], M80)
                    rcases Int.decEq x83.toInt (0 : Int) with h87 | h87
                    · skip
                      refine w_ine_t dX5_readPart_206 (t := 215) rfl (by omega) ?_
                      refine w_lo dX5_readPart_215 rfl rfl rfl rfl ?_
                      refine w_iv dX5_readPart_216 rfl rfl (As := []) rfl rfl hJ86.1.1 zs_2 (Nat.le_of_ble_eq_true rfl) ?_
                      refine ZV.imp (k_1289 hN hJ86.1) ?_
                      rintro _ ⟨M88, rfl, hJ89, hq90⟩
                      have hJ91 := zJ_trans hJ86 hJ89 (zSub_cons (fun _ _ h h' hk => zIR_s (zIR_s (zIR_s (zIR_s (zIR_s (zIR_s (zIR_e (by omega) (by omega) hk))))))) zSub_nil)
                      show ZW _ _ _ _ _ _ _ (219, [some (.ref 2), some (.int 0), some (.int v99_2), some (.int v99_3)], [], M88)
                      refine w_ic dX5_readPart_219 zi_1 ?_
                      refine w_en dX5_readPart_220 rfl ?_
                      exact ⟨_, _, rfl, (by have := zt_1; omega), (by have := zt_1; omega), hJ91, trivial⟩
                    · skip
                      refine w_ine_f dX5_readPart_206 (t := 215) rfl (by omega) ?_
                      refine w_lo dX5_readPart_209 rfl rfl rfl rfl ?_
                      refine w_ic dX5_readPart_210 zi_1 ?_
                      refine w_iv dX5_readPart_211 rfl rfl (As := [.int 1]) rfl rfl hJ86.1.1 zs_2 (Nat.le_of_ble_eq_true rfl) ?_
                      refine ZV.imp (k_1286 1 (by have := zt_1; omega) (by have := zt_1; omega) hN hJ86.1) ?_
                      rintro _ ⟨x95, M92, rfl, h96, h97, hJ93, hq94⟩
                      have hJ98 := zJ_trans hJ86 hJ93 (zSub_cons (fun _ _ h h' hk => zIR_e (by omega) (by omega) hk) (zSub_cons (fun _ _ h h' hk => zIR_s (zIR_e (by omega) (by omega) hk)) zSub_nil))
                      show ZW _ _ _ _ _ _ _ (214, [some (.ref 2), some (.int 0), some (.int v99_2), some (.int v99_3)], [.int x95], M92)
                      refine w_eni dX5_readPart_214 rfl (znb (by omega) (by omega)) ?_
                      exact ⟨_, _, rfl, (by omega), (by omega), hJ98, trivial⟩
                · skip
                  refine w_ine_f dX5_readPart_172 (t := 177) rfl (by omega) ?_
                  refine w_ic dX5_readPart_175 zi_0 ?_
                  refine w_en dX5_readPart_176 rfl ?_
                  exact ⟨_, _, rfl, (by have := zt_0; omega), (by have := zt_0; omega), hJ46, trivial⟩
              · skip
                refine w_ine_f dX5_readPart_152 (t := 161) rfl (by omega) ?_
                refine w_lo dX5_readPart_155 rfl rfl rfl rfl ?_
                refine w_ic dX5_readPart_156 zi_1 ?_
                refine w_iv dX5_readPart_157 rfl rfl (As := [.int 1]) rfl rfl hJ34.1.1 zs_2 (Nat.le_of_ble_eq_true rfl) ?_
                refine ZV.imp (k_1286 1 (by have := zt_1; omega) (by have := zt_1; omega) hN hJ34.1) ?_
                rintro _ ⟨x102, M99, rfl, h103, h104, hJ100, hq101⟩
                have hJ105 := zJ_trans hJ34 hJ100 (zSub_cons (fun _ _ h h' hk => zIR_e (by omega) (by omega) hk) (zSub_cons (fun _ _ h h' hk => zIR_s (zIR_e (by omega) (by omega) hk)) zSub_nil))
                show ZW _ _ _ _ _ _ _ (160, [some (.ref 2), some (.int 0), some (.int v99_2), some (.int v99_3)], [.int x102], M99)
                refine w_eni dX5_readPart_160 rfl (znb (by omega) (by omega)) ?_
                exact ⟨_, _, rfl, (by omega), (by omega), hJ105, trivial⟩
            · skip
              refine w_ieq_t dX5_readPart_143 (t := 200) rfl (by omega) ?_
              refine w_lo dX5_readPart_200 rfl rfl rfl rfl ?_
              refine w_bi dX5_readPart_201 (c := 41) (by decide) ?_
              refine w_iv dX5_readPart_203 rfl rfl (As := [.int 41]) rfl rfl hJ25.1.1 zs_2 (Nat.le_of_ble_eq_true rfl) ?_
              refine ZV.imp (k_1299 41 (by have := zt_41; omega) (by have := zt_41; omega) hN hJ25.1) ?_
              rintro _ ⟨x109, M106, rfl, h110, h111, hJ107, hq108⟩
              have hJ112 := zJ_trans hJ25 hJ107 zSub_nil
              show ZW _ _ _ _ _ _ _ (206, [some (.ref 2), some (.int 0), some (.int v99_2), some (.int v99_3)], [.int x109], M106)
              rcases Int.decEq x109.toInt (0 : Int) with h113 | h113
              · skip
                refine w_ine_t dX5_readPart_206 (t := 215) rfl (by omega) ?_
                refine w_lo dX5_readPart_215 rfl rfl rfl rfl ?_
                refine w_iv dX5_readPart_216 rfl rfl (As := []) rfl rfl hJ112.1.1 zs_2 (Nat.le_of_ble_eq_true rfl) ?_
                refine ZV.imp (k_1289 hN hJ112.1) ?_
                rintro _ ⟨M114, rfl, hJ115, hq116⟩
                have hJ117 := zJ_trans hJ112 hJ115 (zSub_cons (fun _ _ h h' hk => zIR_s (zIR_s (zIR_s (zIR_s (zIR_s (zIR_s (zIR_e (by omega) (by omega) hk))))))) zSub_nil)
                show ZW _ _ _ _ _ _ _ (219, [some (.ref 2), some (.int 0), some (.int v99_2), some (.int v99_3)], [], M114)
                refine w_ic dX5_readPart_219 zi_1 ?_
                refine w_en dX5_readPart_220 rfl ?_
                exact ⟨_, _, rfl, (by have := zt_1; omega), (by have := zt_1; omega), hJ117, trivial⟩
              · skip
                refine w_ine_f dX5_readPart_206 (t := 215) rfl (by omega) ?_
                refine w_lo dX5_readPart_209 rfl rfl rfl rfl ?_
                refine w_ic dX5_readPart_210 zi_1 ?_
                refine w_iv dX5_readPart_211 rfl rfl (As := [.int 1]) rfl rfl hJ112.1.1 zs_2 (Nat.le_of_ble_eq_true rfl) ?_
                refine ZV.imp (k_1286 1 (by have := zt_1; omega) (by have := zt_1; omega) hN hJ112.1) ?_
                rintro _ ⟨x121, M118, rfl, h122, h123, hJ119, hq120⟩
                have hJ124 := zJ_trans hJ112 hJ119 (zSub_cons (fun _ _ h h' hk => zIR_e (by omega) (by omega) hk) (zSub_cons (fun _ _ h h' hk => zIR_s (zIR_e (by omega) (by omega) hk)) zSub_nil))
                show ZW _ _ _ _ _ _ _ (214, [some (.ref 2), some (.int 0), some (.int v99_2), some (.int v99_3)], [.int x121], M118)
                refine w_eni dX5_readPart_214 rfl (znb (by omega) (by omega)) ?_
                exact ⟨_, _, rfl, (by omega), (by omega), hJ124, trivial⟩
          · skip
            refine w_ine_f dX5_readPart_137 (t := 142) rfl (by omega) ?_
            refine w_ic dX5_readPart_140 zi_0 ?_
            refine w_en dX5_readPart_141 rfl ?_
            exact ⟨_, _, rfl, (by have := zt_0; omega), (by have := zt_0; omega), hJ25, trivial⟩
        · skip
          refine w_ine_f dX5_readPart_105 (t := 114) rfl (by omega) ?_
          refine w_lo dX5_readPart_108 rfl rfl rfl rfl ?_
          refine w_ic dX5_readPart_109 zi_1 ?_
          refine w_iv dX5_readPart_110 rfl rfl (As := [.int 1]) rfl rfl hJ13.1.1 zs_2 (Nat.le_of_ble_eq_true rfl) ?_
          refine ZV.imp (k_1286 1 (by have := zt_1; omega) (by have := zt_1; omega) hN hJ13.1) ?_
          rintro _ ⟨x128, M125, rfl, h129, h130, hJ126, hq127⟩
          have hJ131 := zJ_trans hJ13 hJ126 (zSub_cons (fun _ _ h h' hk => zIR_e (by omega) (by omega) hk) (zSub_cons (fun _ _ h h' hk => zIR_s (zIR_e (by omega) (by omega) hk)) zSub_nil))
          show ZW _ _ _ _ _ _ _ (113, [some (.ref 2), some (.int 0), some (.int v99_2), some (.int v99_3)], [.int x128], M125)
          refine w_eni dX5_readPart_113 rfl (znb (by omega) (by omega)) ?_
          exact ⟨_, _, rfl, (by omega), (by omega), hJ131, trivial⟩
  obtain ⟨ih73, ih85, ih99⟩ := main 8
  show ZW _ _ _ _ _ _ _ (0, [some (.ref 2), some (.int 0), none, none], [], M0)
  refine w_lo dX5_readPart_0 rfl rfl rfl rfl ?_
  refine w_gf dX5_readPart_1 rfl hJ0.1.1 zs_2 (zr_2_3 hJ0.1) ?_
  refine w_lo dX5_readPart_4 rfl rfl rfl rfl ?_
  refine w_gfi dX5_readPart_5 rfl hJ0.1 zs_2 (Nat.le_of_ble_eq_true rfl) zo_2_7 ?_
  intro x132 f133 h134 h135
  refine w_iai dX5_readPart_8 hJ0.1 zs_4 (by omega) (by omega) zu_4 ?_
  intro x139 f136 h137 h138
  refine w_ic dX5_readPart_9 zi_4 ?_
  rcases Int.decEq x139.toInt (4 : Int) with h140 | h140
  · skip
    refine w_cne_t dX5_readPart_10 (t := 38) rfl (by have := zt_4; omega) ?_
    refine w_lo dX5_readPart_38 rfl rfl rfl rfl ?_
    refine w_iv dX5_readPart_39 rfl rfl (As := []) rfl rfl hJ0.1.1 zs_2 (Nat.le_of_ble_eq_true rfl) ?_
    refine ZV.imp (k_1287 hN hJ0.1) ?_
    rintro _ ⟨x144, M141, rfl, h145, h146, hJ142, hq143⟩
    have hJ147 := zJ_trans hJ0 hJ142 zSub_nil
    show ZW _ _ _ _ _ _ _ (42, [some (.ref 2), some (.int 0), none, none], [.int x144], M141)
    refine w_lo (ml' := [some (.ref 2), some (.int 0), some (.int x144), none]) dX5_readPart_42 rfl rfl rfl rfl ?_
    refine w_lo dX5_readPart_43 rfl rfl rfl rfl ?_
    refine w_ic dX5_readPart_44 zi_m1 ?_
    rcases Int.decEq x144.toInt (-1 : Int) with h148 | h148
    · skip
      refine w_ceq_f dX5_readPart_45 (t := 73) rfl (by have := zt_m1; omega) ?_
      refine w_lo dX5_readPart_48 rfl rfl rfl rfl ?_
      refine w_bi dX5_readPart_49 (c := 7) (by decide) ?_
      rcases zcut x144.toInt (7 : Int) with h149 | h149
      · skip
        refine w_cge_f dX5_readPart_51 (t := 73) rfl (by have := zt_7; omega) ?_
        refine w_lo dX5_readPart_54 rfl rfl rfl rfl ?_
        obtain ⟨b150, f151, h152⟩ := zd_2_8 hJ147.1
        have h153 := zDm_b h152
        refine w_gf dX5_readPart_55 rfl hJ147.1.1 zs_2 f151 ?_
        refine w_gf dX5_readPart_58 rfl hJ147.1.1 (zs_1_0 h152) (zr_1_0_15 h152 hJ147.1) ?_
        refine w_ic dX5_readPart_61 zi_m1 ?_
        refine w_lo dX5_readPart_62 rfl rfl rfl rfl ?_
        refine w_sub dX5_readPart_63 (by have := zt_m1; omega) ?_
        intro x154 h155
        have := zt_m1
        refine w_iv dX5_readPart_64 rfl rfl (As := [.int x154]) rfl rfl hJ147.1.1 (zs_1_13 h152) (Nat.le_of_ble_eq_true rfl) ?_
        refine ZV.imp (k_515 (b150 + 13) (zLw_of h152) x154 hN hJ147.1) ?_
        rintro _ ⟨M156, rfl, hJ157, hq158⟩
        have hJ159 := zJ_trans hJ147 hJ157 (zSub_cons (fun _ _ h h' hk => ((zDm_or h152).elim (fun e => zIR_s (zIR_s (zIR_e (by omega) (by omega) hk))) (fun e => zIR_s (zIR_s (zIR_s (zIR_e (by omega) (by omega) hk)))))) (zSub_cons (fun _ _ h h' hk => ((zDm_or h152).elim (fun e => zIR_s (zIR_s (zIR_s (zIR_s (zIR_a (by omega) (by omega)))))) (fun e => zIR_s (zIR_s (zIR_s (zIR_s (zIR_s (zIR_a (by omega) (by omega))))))))) zSub_nil))
        show ZW _ _ _ _ _ _ _ (67, [some (.ref 2), some (.int 0), some (.int x144), none], [], M156)
        refine w_lo dX5_readPart_67 rfl rfl rfl rfl ?_
        refine w_iv dX5_readPart_68 rfl rfl (As := []) rfl rfl hJ159.1.1 zs_2 (Nat.le_of_ble_eq_true rfl) ?_
        refine ZV.imp (k_1289 hN hJ159.1) ?_
        rintro _ ⟨M160, rfl, hJ161, hq162⟩
        have hJ163 := zJ_trans hJ159 hJ161 (zSub_cons (fun _ _ h h' hk => zIR_s (zIR_s (zIR_s (zIR_s (zIR_s (zIR_s (zIR_e (by omega) (by omega) hk))))))) zSub_nil)
        show ZW _ _ _ _ _ _ _ (71, [some (.ref 2), some (.int 0), some (.int x144), none], [], M160)
        refine w_ic dX5_readPart_71 zi_1 ?_
        refine w_en dX5_readPart_72 rfl ?_
        exact ⟨_, _, rfl, (by have := zt_1; omega), (by have := zt_1; omega), hJ163, trivial⟩
      · skip
        refine w_cge_t dX5_readPart_51 (t := 73) rfl (by have := zt_7; omega) ?_
        exact ih73 M141 x144 none hJ147 (by omega) (by omega) (by have := zt_0; omega)
    · skip
      refine w_ceq_t dX5_readPart_45 (t := 73) rfl (by have := zt_m1; omega) ?_
      exact ih73 M141 x144 none hJ147 (by omega) (by omega) (by have := zt_0; omega)
  · skip
    refine w_cne_f dX5_readPart_10 (t := 38) rfl (by have := zt_4; omega) ?_
    refine w_lo dX5_readPart_13 rfl rfl rfl rfl ?_
    obtain ⟨b164, f165, h166⟩ := zd_2_8 hJ0.1
    have h167 := zDm_b h166
    refine w_gf dX5_readPart_14 rfl hJ0.1.1 zs_2 f165 ?_
    refine w_gf dX5_readPart_17 rfl hJ0.1.1 (zs_1_0 h166) (zr_1_0_15 h166 hJ0.1) ?_
    refine w_lo dX5_readPart_20 rfl rfl rfl rfl ?_
    refine w_gf dX5_readPart_21 rfl hJ0.1.1 zs_2 (zr_2_4 hJ0.1) ?_
    refine w_lo dX5_readPart_24 rfl rfl rfl rfl ?_
    refine w_gf dX5_readPart_25 rfl hJ0.1.1 zs_2 f133 ?_
    refine w_iai dX5_readPart_28 hJ0.1 zs_5 (by omega) (by omega) zu_5 ?_
    intro x171 f168 h169 h170
    refine w_iv dX5_readPart_29 rfl rfl (As := [.int x171]) rfl rfl hJ0.1.1 (zs_1_13 h166) (Nat.le_of_ble_eq_true rfl) ?_
    refine ZV.imp (k_515 (b164 + 13) (zLw_of h166) x171 hN hJ0.1) ?_
    rintro _ ⟨M172, rfl, hJ173, hq174⟩
    have hJ175 := zJ_trans hJ0 hJ173 (zSub_cons (fun _ _ h h' hk => ((zDm_or h166).elim (fun e => zIR_s (zIR_s (zIR_e (by omega) (by omega) hk))) (fun e => zIR_s (zIR_s (zIR_s (zIR_e (by omega) (by omega) hk)))))) (zSub_cons (fun _ _ h h' hk => ((zDm_or h166).elim (fun e => zIR_s (zIR_s (zIR_s (zIR_s (zIR_a (by omega) (by omega)))))) (fun e => zIR_s (zIR_s (zIR_s (zIR_s (zIR_s (zIR_a (by omega) (by omega))))))))) zSub_nil))
    show ZW _ _ _ _ _ _ _ (32, [some (.ref 2), some (.int 0), none, none], [], M172)
    refine w_lo dX5_readPart_32 rfl rfl rfl rfl ?_
    refine w_iv dX5_readPart_33 rfl rfl (As := []) rfl rfl hJ175.1.1 zs_2 (Nat.le_of_ble_eq_true rfl) ?_
    refine ZV.imp (k_1289 hN hJ175.1) ?_
    rintro _ ⟨M176, rfl, hJ177, hq178⟩
    have hJ179 := zJ_trans hJ175 hJ177 (zSub_cons (fun _ _ h h' hk => zIR_s (zIR_s (zIR_s (zIR_s (zIR_s (zIR_s (zIR_e (by omega) (by omega) hk))))))) zSub_nil)
    show ZW _ _ _ _ _ _ _ (36, [some (.ref 2), some (.int 0), none, none], [], M176)
    refine w_ic dX5_readPart_36 zi_1 ?_
    refine w_en dX5_readPart_37 rfl ?_
    exact ⟨_, _, rfl, (by have := zt_1; omega), (by have := zt_1; omega), hJ179, trivial⟩
set_option maxRecDepth 100000 in
theorem k_1297_c0 {X : List Int32} {d N : Nat} {M0 : zM}  (hN : N ≤ 600) (hB0 : zB N M0) : ZV X (d + 19) 1297 [.ref 2, .int 0] M0 (zRI N [(2, 3, 0), (2, 3, 1), (20, 21, 1), (41, 42, 1), (21, 22, 1000), (42, 43, 1000), (2, 3, 7)] M0 (0) (1) (fun _ _ => True)) := by
  have hJ0 : zJ N [(2, 3, 0), (2, 3, 1), (20, 21, 1), (41, 42, 1), (21, 22, 1000), (42, 43, 1000), (2, 3, 7)] M0 M0 := zJ_refl hB0
  refine ZV.of (ini := false) rfl (Nat.le_of_ble_eq_true rfl) (by decide +kernel) ?_
  have main : ∀ n : Nat,
      (∀ (M : zM) (v4_2 : Int32) (v4_3 : Int32) (o4_4 : Option Value) (o4_5 : Option Value), zJ N [(2, 3, 0), (2, 3, 1), (20, 21, 1), (41, 42, 1), (21, 22, 1000), (42, 43, 1000), (2, 3, 7)] M0 M → ((-13 : Int) ≤ v4_2.toInt) → (v4_2.toInt ≤ 0) → ((0 : Int) ≤ v4_3.toInt) → (v4_3.toInt ≤ 1601) → 12832 * (1601 - v4_3.toInt) + 12830 < (n : Int) → ZW X (d + 18) 5 false (some .boolean) cX5_readSum (zRI N [(2, 3, 0), (2, 3, 1), (20, 21, 1), (41, 42, 1), (21, 22, 1000), (42, 43, 1000), (2, 3, 7)] M0 (0) (1) (fun _ _ => True)) (4, [some (.ref 2), some (.int 0), some (.int v4_2), some (.int v4_3), o4_4, o4_5], [], M)) ∧
      (∀ (M : zM) (v17_2 : Int32) (v17_3 : Int32) (v17_4 : Int32) (v17_5 : Int32), zJ N [(2, 3, 0), (2, 3, 1), (20, 21, 1), (41, 42, 1), (21, 22, 1000), (42, 43, 1000), (2, 3, 7)] M0 M → ((-2147483648 : Int) ≤ v17_2.toInt) → (v17_2.toInt ≤ 0) → ((0 : Int) ≤ v17_3.toInt) → (v17_3.toInt ≤ 1600) → ((-11 : Int) ≤ v17_4.toInt) → (v17_4.toInt ≤ 0) → ((0 : Int) ≤ v17_5.toInt) → (v17_5.toInt ≤ 1601) → 12832 * (1601 - v17_3.toInt) + 8 * (1601 - v17_5.toInt) + 5 < (n : Int) → ZW X (d + 18) 5 false (some .boolean) cX5_readSum (zRI N [(2, 3, 0), (2, 3, 1), (20, 21, 1), (41, 42, 1), (21, 22, 1000), (42, 43, 1000), (2, 3, 7)] M0 (0) (1) (fun _ _ => True)) (17, [some (.ref 2), some (.int 0), some (.int v17_2), some (.int v17_3), some (.int v17_4), some (.int v17_5)], [], M)) ∧
      (∀ (M : zM) (v52_2 : Int32) (v52_3 : Int32) (u52_4 : Int32) (v52_5 : Int32), zJ N [(2, 3, 0), (2, 3, 1), (20, 21, 1), (41, 42, 1), (21, 22, 1000), (42, 43, 1000), (2, 3, 7)] M0 M → ((-2147483648 : Int) ≤ v52_2.toInt) → (v52_2.toInt ≤ 0) → ((0 : Int) ≤ v52_3.toInt) → (v52_3.toInt ≤ 1600) → ((0 : Int) ≤ v52_5.toInt) → (v52_5.toInt ≤ 1600) → 12832 * (1601 - v52_3.toInt) + 8 * (1601 - v52_5.toInt) + 4 < (n : Int) → ZW X (d + 18) 5 false (some .boolean) cX5_readSum (zRI N [(2, 3, 0), (2, 3, 1), (20, 21, 1), (41, 42, 1), (21, 22, 1000), (42, 43, 1000), (2, 3, 7)] M0 (0) (1) (fun _ _ => True)) (52, [some (.ref 2), some (.int 0), some (.int v52_2), some (.int v52_3), some (.int u52_4), some (.int v52_5)], [], M)) ∧
      (∀ (M : zM) (v95_2 : Int32) (v95_3 : Int32) (u95_4 : Int32) (v95_5 : Int32) (s95_0 : Int32), zJ N [(2, 3, 0), (2, 3, 1), (20, 21, 1), (41, 42, 1), (21, 22, 1000), (42, 43, 1000), (2, 3, 7)] M0 M → ((-2147483648 : Int) ≤ v95_2.toInt) → (v95_2.toInt ≤ 0) → ((0 : Int) ≤ v95_3.toInt) → (v95_3.toInt ≤ 1600) → ((0 : Int) ≤ v95_5.toInt) → (v95_5.toInt ≤ 1600) → ((-11 : Int) ≤ s95_0.toInt) → (s95_0.toInt ≤ 0) → 12832 * (1601 - v95_3.toInt) + 8 * (1601 - v95_5.toInt) + 3 < (n : Int) → ZW X (d + 18) 5 false (some .boolean) cX5_readSum (zRI N [(2, 3, 0), (2, 3, 1), (20, 21, 1), (41, 42, 1), (21, 22, 1000), (42, 43, 1000), (2, 3, 7)] M0 (0) (1) (fun _ _ => True)) (95, [some (.ref 2), some (.int 0), some (.int v95_2), some (.int v95_3), some (.int u95_4), some (.int v95_5)], [.int s95_0], M)) ∧
      (∀ (M : zM) (v115_2 : Int32) (v115_3 : Int32) (u115_4 : Int32) (u115_5 : Int32), zJ N [(2, 3, 0), (2, 3, 1), (20, 21, 1), (41, 42, 1), (21, 22, 1000), (42, 43, 1000), (2, 3, 7)] M0 M → ((-2147483648 : Int) ≤ v115_2.toInt) → (v115_2.toInt ≤ 0) → ((0 : Int) ≤ v115_3.toInt) → (v115_3.toInt ≤ 1600) → 12832 * (1601 - v115_3.toInt) + 2 < (n : Int) → ZW X (d + 18) 5 false (some .boolean) cX5_readSum (zRI N [(2, 3, 0), (2, 3, 1), (20, 21, 1), (41, 42, 1), (21, 22, 1000), (42, 43, 1000), (2, 3, 7)] M0 (0) (1) (fun _ _ => True)) (115, [some (.ref 2), some (.int 0), some (.int v115_2), some (.int v115_3), some (.int u115_4), some (.int u115_5)], [], M)) ∧
      (∀ (M : zM) (u130_2 : Int32) (v130_3 : Int32) (u130_4 : Int32) (u130_5 : Int32), zJ N [(2, 3, 0), (2, 3, 1), (20, 21, 1), (41, 42, 1), (21, 22, 1000), (42, 43, 1000), (2, 3, 7)] M0 M → ((0 : Int) ≤ v130_3.toInt) → (v130_3.toInt ≤ 1600) → 12832 * (1601 - v130_3.toInt) + 1 < (n : Int) → ZW X (d + 18) 5 false (some .boolean) cX5_readSum (zRI N [(2, 3, 0), (2, 3, 1), (20, 21, 1), (41, 42, 1), (21, 22, 1000), (42, 43, 1000), (2, 3, 7)] M0 (0) (1) (fun _ _ => True)) (130, [some (.ref 2), some (.int 0), some (.int u130_2), some (.int v130_3), some (.int u130_4), some (.int u130_5)], [], M)) := by
    intro n
    induction n with
    | zero =>
      exact ⟨(fun M v4_2 v4_3 o4_4 o4_5 hJ v4_20 v4_21 v4_30 v4_31 hn => absurd hn (by omega)), (fun M v17_2 v17_3 v17_4 v17_5 hJ v17_20 v17_21 v17_30 v17_31 v17_40 v17_41 v17_50 v17_51 hn => absurd hn (by omega)), (fun M v52_2 v52_3 u52_4 v52_5 hJ v52_20 v52_21 v52_30 v52_31 v52_50 v52_51 hn => absurd hn (by omega)), (fun M v95_2 v95_3 u95_4 v95_5 s95_0 hJ v95_20 v95_21 v95_30 v95_31 v95_50 v95_51 s95_00 s95_01 hn => absurd hn (by omega)), (fun M v115_2 v115_3 u115_4 u115_5 hJ v115_20 v115_21 v115_30 v115_31 hn => absurd hn (by omega)), (fun M u130_2 v130_3 u130_4 u130_5 hJ v130_30 v130_31 hn => absurd hn (by omega))⟩
    | succ n ih =>
      obtain ⟨ih4, ih17, ih52, ih95, ih115, ih130⟩ := ih
      refine ⟨?_, ?_, ?_, ?_, ?_, ?_⟩
      · intro M v4_2 v4_3 o4_4 o4_5 hJ v4_20 v4_21 v4_30 v4_31 hn
        refine w_lo dX5_readSum_4 rfl rfl rfl rfl ?_
        refine w_si dX5_readSum_5 (c := 1600) (by decide) ?_
        rcases zcut (1600 : Int) v4_3.toInt with h1 | h1
        · skip
          refine w_cgt_t dX5_readSum_8 (t := 177) rfl (by have := zt_1600; omega) ?_
          refine w_ic dX5_readSum_177 zi_1 ?_
          refine w_en dX5_readSum_178 rfl ?_
          exact ⟨_, _, rfl, (by have := zt_1; omega), (by have := zt_1; omega), hJ, trivial⟩
        · skip
          refine w_cgt_f dX5_readSum_8 (t := 177) rfl (by have := zt_1600; omega) ?_
          refine w_ic dX5_readSum_11 zi_0 ?_
          refine w_lo (ml' := [some (.ref 2), some (.int 0), some (.int v4_2), some (.int v4_3), some (.int 0), o4_5]) dX5_readSum_12 rfl rfl rfl rfl ?_
          refine w_ic dX5_readSum_14 zi_0 ?_
          refine w_lo (ml' := [some (.ref 2), some (.int 0), some (.int v4_2), some (.int v4_3), some (.int 0), some (.int 0)]) dX5_readSum_15 rfl rfl rfl rfl ?_
          exact ih17 M v4_2 v4_3 0 0 hJ (zbot _) (by omega) (by omega) (by omega) (by have := zt_0; omega) (by have := zt_0; omega) (by have := zt_0; omega) (by have := zt_0; omega) (by have := zt_0; omega)
      · intro M v17_2 v17_3 v17_4 v17_5 hJ v17_20 v17_21 v17_30 v17_31 v17_40 v17_41 v17_50 v17_51 hn
        refine w_lo dX5_readSum_17 rfl rfl rfl rfl ?_
        refine w_si dX5_readSum_19 (c := 1600) (by decide) ?_
        rcases zcut (1600 : Int) v17_5.toInt with h2 | h2
        · skip
          refine w_cgt_t dX5_readSum_22 (t := 115) rfl (by have := zt_1600; omega) ?_
          exact ih115 M v17_2 v17_3 v17_4 v17_5 hJ (zbot _) (by omega) (by omega) (by omega) (by have := zt_0; omega)
        · skip
          refine w_cgt_f dX5_readSum_22 (t := 115) rfl (by have := zt_1600; omega) ?_
          refine w_lo dX5_readSum_25 rfl rfl rfl rfl ?_
          refine w_lo dX5_readSum_26 rfl rfl rfl rfl ?_
          refine w_iv dX5_readSum_27 rfl rfl (As := [.int 0]) rfl rfl hJ.1.1 zs_2 (Nat.le_of_ble_eq_true rfl) ?_
          refine ZV.imp (k_1298_c0 hN hJ.1) ?_
          rintro _ ⟨x6, M3, rfl, h7, h8, hJ4, hq5⟩
          have hJ9 := zJ_trans hJ hJ4 (zSub_cons (fun _ _ h h' hk => zIR_e (by omega) (by omega) hk) (zSub_cons (fun _ _ h h' hk => zIR_s (zIR_e (by omega) (by omega) hk)) (zSub_cons (fun _ _ h h' hk => zIR_s (zIR_s (zIR_e (by omega) (by omega) hk))) (zSub_cons (fun _ _ h h' hk => zIR_s (zIR_s (zIR_s (zIR_e (by omega) (by omega) hk)))) (zSub_cons (fun _ _ h h' hk => zIR_s (zIR_s (zIR_s (zIR_s (zIR_a (by omega) (by omega)))))) (zSub_cons (fun _ _ h h' hk => zIR_s (zIR_s (zIR_s (zIR_s (zIR_s (zIR_a (by omega) (by omega))))))) (zSub_cons (fun _ _ h h' hk => zIR_s (zIR_s (zIR_s (zIR_s (zIR_s (zIR_s (zIR_e (by omega) (by omega) hk))))))) zSub_nil)))))))
          show ZW _ _ _ _ _ _ _ (30, [some (.ref 2), some (.int 0), some (.int v17_2), some (.int v17_3), some (.int v17_4), some (.int v17_5)], [.int x6], M3)
          rcases Int.decEq x6.toInt (0 : Int) with h10 | h10
          · skip
            refine w_ine_t dX5_readSum_30 (t := 35) rfl (by omega) ?_
            refine w_lo dX5_readSum_35 rfl rfl rfl rfl ?_
            rcases Int.decEq v17_4.toInt (0 : Int) with h11 | h11
            · skip
              refine w_ieq_f dX5_readSum_37 (t := 52) rfl (by omega) ?_
              refine w_lo dX5_readSum_40 rfl rfl rfl rfl ?_
              obtain ⟨b12, f13, h14⟩ := zd_2_8 hJ9.1
              have h15 := zDm_b h14
              refine w_gf dX5_readSum_41 rfl hJ9.1.1 zs_2 f13 ?_
              refine w_gf dX5_readSum_44 rfl hJ9.1.1 (zs_1_0 h14) (zr_1_0_15 h14 hJ9.1) ?_
              refine w_lo dX5_readSum_47 rfl rfl rfl rfl ?_
              refine w_iv dX5_readSum_49 rfl rfl (As := [.int v17_4]) rfl rfl hJ9.1.1 (zs_1_13 h14) (Nat.le_of_ble_eq_true rfl) ?_
              refine ZV.imp (k_515 (b12 + 13) (zLw_of h14) v17_4 hN hJ9.1) ?_
              rintro _ ⟨M16, rfl, hJ17, hq18⟩
              have hJ19 := zJ_trans hJ9 hJ17 (zSub_cons (fun _ _ h h' hk => ((zDm_or h14).elim (fun e => zIR_s (zIR_s (zIR_e (by omega) (by omega) hk))) (fun e => zIR_s (zIR_s (zIR_s (zIR_e (by omega) (by omega) hk)))))) (zSub_cons (fun _ _ h h' hk => ((zDm_or h14).elim (fun e => zIR_s (zIR_s (zIR_s (zIR_s (zIR_a (by omega) (by omega)))))) (fun e => zIR_s (zIR_s (zIR_s (zIR_s (zIR_s (zIR_a (by omega) (by omega))))))))) zSub_nil))
              show ZW _ _ _ _ _ _ _ (52, [some (.ref 2), some (.int 0), some (.int v17_2), some (.int v17_3), some (.int v17_4), some (.int v17_5)], [], M16)
              exact ih52 M16 v17_2 v17_3 v17_4 v17_5 hJ19 (zbot _) (by omega) (by omega) (by omega) (by omega) (by omega) (by have := zt_0; omega)
            · skip
              refine w_ieq_t dX5_readSum_37 (t := 52) rfl (by omega) ?_
              exact ih52 M3 v17_2 v17_3 v17_4 v17_5 hJ9 (zbot _) (by omega) (by omega) (by omega) (by omega) (by omega) (by have := zt_0; omega)
          · skip
            refine w_ine_f dX5_readSum_30 (t := 35) rfl (by omega) ?_
            refine w_ic dX5_readSum_33 zi_0 ?_
            refine w_en dX5_readSum_34 rfl ?_
            exact ⟨_, _, rfl, (by have := zt_0; omega), (by have := zt_0; omega), hJ9, trivial⟩
      · intro M v52_2 v52_3 u52_4 v52_5 hJ v52_20 v52_21 v52_30 v52_31 v52_50 v52_51 hn
        refine w_lo dX5_readSum_52 rfl rfl rfl rfl ?_
        refine w_bi dX5_readSum_53 (c := 42) (by decide) ?_
        refine w_iv dX5_readSum_55 rfl rfl (As := [.int 42]) rfl rfl hJ.1.1 zs_2 (Nat.le_of_ble_eq_true rfl) ?_
        refine ZV.imp (k_1299 42 (by have := zt_42; omega) (by have := zt_42; omega) hN hJ.1) ?_
        rintro _ ⟨x23, M20, rfl, h24, h25, hJ21, hq22⟩
        have hJ26 := zJ_trans hJ hJ21 zSub_nil
        show ZW _ _ _ _ _ _ _ (58, [some (.ref 2), some (.int 0), some (.int v52_2), some (.int v52_3), some (.int u52_4), some (.int v52_5)], [.int x23], M20)
        rcases Int.decEq x23.toInt (0 : Int) with h27 | h27
        · skip
          refine w_ieq_f dX5_readSum_58 (t := 66) rfl (by omega) ?_
          refine w_bi dX5_readSum_61 (c := (-9)) (by decide) ?_
          refine w_gt dX5_readSum_63 (t := 95) rfl ?_
          exact ih95 M20 v52_2 v52_3 u52_4 v52_5 (-9) hJ26 (zbot _) (by omega) (by omega) (by omega) (by omega) (by omega) (by have := zt_m9; omega) (by have := zt_m9; omega) (by have := zt_0; have := zt_m9; omega)
        · skip
          refine w_ieq_t dX5_readSum_58 (t := 66) rfl (by omega) ?_
          refine w_lo dX5_readSum_66 rfl rfl rfl rfl ?_
          refine w_bi dX5_readSum_67 (c := 47) (by decide) ?_
          refine w_iv dX5_readSum_69 rfl rfl (As := [.int 47]) rfl rfl hJ26.1.1 zs_2 (Nat.le_of_ble_eq_true rfl) ?_
          refine ZV.imp (k_1299 47 (by have := zt_47; omega) (by have := zt_47; omega) hN hJ26.1) ?_
          rintro _ ⟨x31, M28, rfl, h32, h33, hJ29, hq30⟩
          have hJ34 := zJ_trans hJ26 hJ29 zSub_nil
          show ZW _ _ _ _ _ _ _ (72, [some (.ref 2), some (.int 0), some (.int v52_2), some (.int v52_3), some (.int u52_4), some (.int v52_5)], [.int x31], M28)
          rcases Int.decEq x31.toInt (0 : Int) with h35 | h35
          · skip
            refine w_ieq_f dX5_readSum_72 (t := 80) rfl (by omega) ?_
            refine w_bi dX5_readSum_75 (c := (-10)) (by decide) ?_
            refine w_gt dX5_readSum_77 (t := 95) rfl ?_
            exact ih95 M28 v52_2 v52_3 u52_4 v52_5 (-10) hJ34 (zbot _) (by omega) (by omega) (by omega) (by omega) (by omega) (by have := zt_m10; omega) (by have := zt_m10; omega) (by have := zt_0; have := zt_m10; omega)
          · skip
            refine w_ieq_t dX5_readSum_72 (t := 80) rfl (by omega) ?_
            refine w_lo dX5_readSum_80 rfl rfl rfl rfl ?_
            refine w_bi dX5_readSum_81 (c := 37) (by decide) ?_
            refine w_iv dX5_readSum_83 rfl rfl (As := [.int 37]) rfl rfl hJ34.1.1 zs_2 (Nat.le_of_ble_eq_true rfl) ?_
            refine ZV.imp (k_1299 37 (by have := zt_37; omega) (by have := zt_37; omega) hN hJ34.1) ?_
            rintro _ ⟨x39, M36, rfl, h40, h41, hJ37, hq38⟩
            have hJ42 := zJ_trans hJ34 hJ37 zSub_nil
            show ZW _ _ _ _ _ _ _ (86, [some (.ref 2), some (.int 0), some (.int v52_2), some (.int v52_3), some (.int u52_4), some (.int v52_5)], [.int x39], M36)
            rcases Int.decEq x39.toInt (0 : Int) with h43 | h43
            · skip
              refine w_ieq_f dX5_readSum_86 (t := 94) rfl (by omega) ?_
              refine w_bi dX5_readSum_89 (c := (-11)) (by decide) ?_
              refine w_gt dX5_readSum_91 (t := 95) rfl ?_
              exact ih95 M36 v52_2 v52_3 u52_4 v52_5 (-11) hJ42 (zbot _) (by omega) (by omega) (by omega) (by omega) (by omega) (by have := zt_m11; omega) (by have := zt_m11; omega) (by have := zt_0; have := zt_m11; omega)
            · skip
              refine w_ieq_t dX5_readSum_86 (t := 94) rfl (by omega) ?_
              refine w_ic dX5_readSum_94 zi_0 ?_
              exact ih95 M36 v52_2 v52_3 u52_4 v52_5 0 hJ42 (zbot _) (by omega) (by omega) (by omega) (by omega) (by omega) (by have := zt_0; omega) (by have := zt_0; omega) (by have := zt_0; omega)
      · intro M v95_2 v95_3 u95_4 v95_5 s95_0 hJ v95_20 v95_21 v95_30 v95_31 v95_50 v95_51 s95_00 s95_01 hn
        refine w_lo (ml' := [some (.ref 2), some (.int 0), some (.int v95_2), some (.int v95_3), some (.int s95_0), some (.int v95_5)]) dX5_readSum_95 rfl rfl rfl rfl ?_
        refine w_lo dX5_readSum_97 rfl rfl rfl rfl ?_
        rcases Int.decEq s95_0.toInt (0 : Int) with h44 | h44
        · skip
          refine w_ine_t dX5_readSum_99 (t := 105) rfl (by omega) ?_
          refine w_lo dX5_readSum_105 rfl rfl rfl rfl ?_
          refine w_iv dX5_readSum_106 rfl rfl (As := []) rfl rfl hJ.1.1 zs_2 (Nat.le_of_ble_eq_true rfl) ?_
          refine ZV.imp (k_1289 hN hJ.1) ?_
          rintro _ ⟨M45, rfl, hJ46, hq47⟩
          have hJ48 := zJ_trans hJ hJ46 (zSub_cons (fun _ _ h h' hk => zIR_s (zIR_s (zIR_s (zIR_s (zIR_s (zIR_s (zIR_e (by omega) (by omega) hk))))))) zSub_nil)
          show ZW _ _ _ _ _ _ _ (109, [some (.ref 2), some (.int 0), some (.int v95_2), some (.int v95_3), some (.int s95_0), some (.int v95_5)], [], M45)
          refine w_inc (kk := 5) dX5_readSum_109 rfl (m := 1) (by decide) (by omega) ?_
          intro x49 h50
          refine ⟨_, rfl, ?_⟩
          show ZW _ _ _ _ _ _ _ (112, [some (.ref 2), some (.int 0), some (.int v95_2), some (.int v95_3), some (.int s95_0), some (.int x49)], [], M45)
          refine w_gt dX5_readSum_112 (t := 17) rfl ?_
          exact ih17 M45 v95_2 v95_3 s95_0 x49 hJ48 (zbot _) (by omega) (by omega) (by omega) (by omega) (by omega) (by omega) (by omega) (by have := zt_0; omega)
        · skip
          refine w_ine_f dX5_readSum_99 (t := 105) rfl (by omega) ?_
          refine w_gt dX5_readSum_102 (t := 115) rfl ?_
          exact ih115 M v95_2 v95_3 s95_0 v95_5 hJ (zbot _) (by omega) (by omega) (by omega) (by have := zt_0; omega)
      · intro M v115_2 v115_3 u115_4 u115_5 hJ v115_20 v115_21 v115_30 v115_31 hn
        refine w_lo dX5_readSum_115 rfl rfl rfl rfl ?_
        rcases Int.decEq v115_2.toInt (0 : Int) with h51 | h51
        · skip
          refine w_ieq_f dX5_readSum_116 (t := 130) rfl (by omega) ?_
          refine w_lo dX5_readSum_119 rfl rfl rfl rfl ?_
          obtain ⟨b52, f53, h54⟩ := zd_2_8 hJ.1
          have h55 := zDm_b h54
          refine w_gf dX5_readSum_120 rfl hJ.1.1 zs_2 f53 ?_
          refine w_gf dX5_readSum_123 rfl hJ.1.1 (zs_1_0 h54) (zr_1_0_15 h54 hJ.1) ?_
          refine w_lo dX5_readSum_126 rfl rfl rfl rfl ?_
          refine w_iv dX5_readSum_127 rfl rfl (As := [.int v115_2]) rfl rfl hJ.1.1 (zs_1_13 h54) (Nat.le_of_ble_eq_true rfl) ?_
          refine ZV.imp (k_515 (b52 + 13) (zLw_of h54) v115_2 hN hJ.1) ?_
          rintro _ ⟨M56, rfl, hJ57, hq58⟩
          have hJ59 := zJ_trans hJ hJ57 (zSub_cons (fun _ _ h h' hk => ((zDm_or h54).elim (fun e => zIR_s (zIR_s (zIR_e (by omega) (by omega) hk))) (fun e => zIR_s (zIR_s (zIR_s (zIR_e (by omega) (by omega) hk)))))) (zSub_cons (fun _ _ h h' hk => ((zDm_or h54).elim (fun e => zIR_s (zIR_s (zIR_s (zIR_s (zIR_a (by omega) (by omega)))))) (fun e => zIR_s (zIR_s (zIR_s (zIR_s (zIR_s (zIR_a (by omega) (by omega))))))))) zSub_nil))
          show ZW _ _ _ _ _ _ _ (130, [some (.ref 2), some (.int 0), some (.int v115_2), some (.int v115_3), some (.int u115_4), some (.int u115_5)], [], M56)
          exact ih130 M56 v115_2 v115_3 u115_4 u115_5 hJ59 (by omega) (by omega) (by have := zt_0; omega)
        · skip
          refine w_ieq_t dX5_readSum_116 (t := 130) rfl (by omega) ?_
          exact ih130 M v115_2 v115_3 u115_4 u115_5 hJ (by omega) (by omega) (by have := zt_0; omega)
      · intro M u130_2 v130_3 u130_4 u130_5 hJ v130_30 v130_31 hn
        refine w_lo dX5_readSum_130 rfl rfl rfl rfl ?_
        refine w_bi dX5_readSum_131 (c := 43) (by decide) ?_
        refine w_iv dX5_readSum_133 rfl rfl (As := [.int 43]) rfl rfl hJ.1.1 zs_2 (Nat.le_of_ble_eq_true rfl) ?_
        refine ZV.imp (k_1299 43 (by have := zt_43; omega) (by have := zt_43; omega) hN hJ.1) ?_
        rintro _ ⟨x63, M60, rfl, h64, h65, hJ61, hq62⟩
        have hJ66 := zJ_trans hJ hJ61 zSub_nil
        show ZW _ _ _ _ _ _ _ (136, [some (.ref 2), some (.int 0), some (.int u130_2), some (.int v130_3), some (.int u130_4), some (.int u130_5)], [.int x63], M60)
        rcases Int.decEq x63.toInt (0 : Int) with h67 | h67
        · skip
          refine w_ieq_f dX5_readSum_136 (t := 144) rfl (by omega) ?_
          refine w_bi dX5_readSum_139 (c := (-12)) (by decide) ?_
          refine w_gt dX5_readSum_141 (t := 159) rfl ?_
          refine w_lo (ml' := [some (.ref 2), some (.int 0), some (.int (-12)), some (.int v130_3), some (.int u130_4), some (.int u130_5)]) dX5_readSum_159 rfl rfl rfl rfl ?_
          refine w_lo dX5_readSum_160 rfl rfl rfl rfl ?_
          refine w_ine_t dX5_readSum_161 (t := 167) rfl (by have := zt_m12; omega) ?_
          refine w_lo dX5_readSum_167 rfl rfl rfl rfl ?_
          refine w_iv dX5_readSum_168 rfl rfl (As := []) rfl rfl hJ66.1.1 zs_2 (Nat.le_of_ble_eq_true rfl) ?_
          refine ZV.imp (k_1289 hN hJ66.1) ?_
          rintro _ ⟨M68, rfl, hJ69, hq70⟩
          have hJ71 := zJ_trans hJ66 hJ69 (zSub_cons (fun _ _ h h' hk => zIR_s (zIR_s (zIR_s (zIR_s (zIR_s (zIR_s (zIR_e (by omega) (by omega) hk))))))) zSub_nil)
          show ZW _ _ _ _ _ _ _ (171, [some (.ref 2), some (.int 0), some (.int (-12)), some (.int v130_3), some (.int u130_4), some (.int u130_5)], [], M68)
          refine w_inc (kk := 3) dX5_readSum_171 rfl (m := 1) (by decide) (by omega) ?_
          intro x72 h73
          refine ⟨_, rfl, ?_⟩
          show ZW _ _ _ _ _ _ _ (174, [some (.ref 2), some (.int 0), some (.int (-12)), some (.int x72), some (.int u130_4), some (.int u130_5)], [], M68)
          refine w_gt dX5_readSum_174 (t := 4) rfl ?_
          exact ih4 M68 (-12) x72 (some (.int u130_4)) (some (.int u130_5)) hJ71 (by have := zt_m12; omega) (by have := zt_m12; omega) (by omega) (by omega) (by have := zt_0; have := zt_m12; omega)
        · skip
          refine w_ieq_t dX5_readSum_136 (t := 144) rfl (by omega) ?_
          refine w_lo dX5_readSum_144 rfl rfl rfl rfl ?_
          refine w_bi dX5_readSum_145 (c := 45) (by decide) ?_
          refine w_iv dX5_readSum_147 rfl rfl (As := [.int 45]) rfl rfl hJ66.1.1 zs_2 (Nat.le_of_ble_eq_true rfl) ?_
          refine ZV.imp (k_1299 45 (by have := zt_45; omega) (by have := zt_45; omega) hN hJ66.1) ?_
          rintro _ ⟨x77, M74, rfl, h78, h79, hJ75, hq76⟩
          have hJ80 := zJ_trans hJ66 hJ75 zSub_nil
          show ZW _ _ _ _ _ _ _ (150, [some (.ref 2), some (.int 0), some (.int u130_2), some (.int v130_3), some (.int u130_4), some (.int u130_5)], [.int x77], M74)
          rcases Int.decEq x77.toInt (0 : Int) with h81 | h81
          · skip
            refine w_ieq_f dX5_readSum_150 (t := 158) rfl (by omega) ?_
            refine w_bi dX5_readSum_153 (c := (-13)) (by decide) ?_
            refine w_gt dX5_readSum_155 (t := 159) rfl ?_
            refine w_lo (ml' := [some (.ref 2), some (.int 0), some (.int (-13)), some (.int v130_3), some (.int u130_4), some (.int u130_5)]) dX5_readSum_159 rfl rfl rfl rfl ?_
            refine w_lo dX5_readSum_160 rfl rfl rfl rfl ?_
            refine w_ine_t dX5_readSum_161 (t := 167) rfl (by have := zt_m13; omega) ?_
            refine w_lo dX5_readSum_167 rfl rfl rfl rfl ?_
            refine w_iv dX5_readSum_168 rfl rfl (As := []) rfl rfl hJ80.1.1 zs_2 (Nat.le_of_ble_eq_true rfl) ?_
            refine ZV.imp (k_1289 hN hJ80.1) ?_
            rintro _ ⟨M82, rfl, hJ83, hq84⟩
            have hJ85 := zJ_trans hJ80 hJ83 (zSub_cons (fun _ _ h h' hk => zIR_s (zIR_s (zIR_s (zIR_s (zIR_s (zIR_s (zIR_e (by omega) (by omega) hk))))))) zSub_nil)
            show ZW _ _ _ _ _ _ _ (171, [some (.ref 2), some (.int 0), some (.int (-13)), some (.int v130_3), some (.int u130_4), some (.int u130_5)], [], M82)
            refine w_inc (kk := 3) dX5_readSum_171 rfl (m := 1) (by decide) (by omega) ?_
            intro x86 h87
            refine ⟨_, rfl, ?_⟩
            show ZW _ _ _ _ _ _ _ (174, [some (.ref 2), some (.int 0), some (.int (-13)), some (.int x86), some (.int u130_4), some (.int u130_5)], [], M82)
            refine w_gt dX5_readSum_174 (t := 4) rfl ?_
            exact ih4 M82 (-13) x86 (some (.int u130_4)) (some (.int u130_5)) hJ85 (by have := zt_m13; omega) (by have := zt_m13; omega) (by omega) (by omega) (by have := zt_0; have := zt_m13; omega)
          · skip
            refine w_ieq_t dX5_readSum_150 (t := 158) rfl (by omega) ?_
            refine w_ic dX5_readSum_158 zi_0 ?_
            refine w_lo (ml' := [some (.ref 2), some (.int 0), some (.int 0), some (.int v130_3), some (.int u130_4), some (.int u130_5)]) dX5_readSum_159 rfl rfl rfl rfl ?_
            refine w_lo dX5_readSum_160 rfl rfl rfl rfl ?_
            refine w_ine_f dX5_readSum_161 (t := 167) rfl (by have := zt_0; omega) ?_
            refine w_gt dX5_readSum_164 (t := 177) rfl ?_
            refine w_ic dX5_readSum_177 zi_1 ?_
            refine w_en dX5_readSum_178 rfl ?_
            exact ⟨_, _, rfl, (by have := zt_1; omega), (by have := zt_1; omega), hJ80, trivial⟩
  obtain ⟨ih4, ih17, ih52, ih95, ih115, ih130⟩ := main 20582531
  show ZW _ _ _ _ _ _ _ (0, [some (.ref 2), some (.int 0), none, none, none, none], [], M0)
  refine w_ic dX5_readSum_0 zi_0 ?_
  refine w_lo (ml' := [some (.ref 2), some (.int 0), some (.int 0), none, none, none]) dX5_readSum_1 rfl rfl rfl rfl ?_
  refine w_ic dX5_readSum_2 zi_0 ?_
  refine w_lo (ml' := [some (.ref 2), some (.int 0), some (.int 0), some (.int 0), none, none]) dX5_readSum_3 rfl rfl rfl rfl ?_
  exact ih4 M0 0 0 none none hJ0 (by have := zt_0; omega) (by have := zt_0; omega) (by have := zt_0; omega) (by have := zt_0; omega) (by have := zt_0; omega)
set_option maxRecDepth 100000 in
theorem k_1301_c8 {X : List Int32} {d N : Nat} {M0 : zM}  (hN : N ≤ 600) (hB0 : zB N M0) : ZV X (d + 4) 1301 [.ref 2, .int 8] M0 (zRI N [(2, 3, 0), (2, 3, 1), (20, 21, 1), (41, 42, 1), (21, 22, 1000), (42, 43, 1000), (2, 3, 7)] M0 (0) (1) (fun _ _ => True)) := by
  have hJ0 : zJ N [(2, 3, 0), (2, 3, 1), (20, 21, 1), (41, 42, 1), (21, 22, 1000), (42, 43, 1000), (2, 3, 7)] M0 M0 := zJ_refl hB0
  refine ZV.of (ini := false) rfl (Nat.le_of_ble_eq_true rfl) (by decide +kernel) ?_
  have main : ∀ n : Nat,
      (∀ (M : zM) (v2_2 : Int32) (o2_3 : Option Value), zJ N [(2, 3, 0), (2, 3, 1), (20, 21, 1), (41, 42, 1), (21, 22, 1000), (42, 43, 1000), (2, 3, 7)] M0 M → ((0 : Int) ≤ v2_2.toInt) → (v2_2.toInt ≤ 1601) → 5 * (1601 - v2_2.toInt) + 3 < (n : Int) → ZW X (d + 3) 5 false (some .boolean) cX5_readFact (zRI N [(2, 3, 0), (2, 3, 1), (20, 21, 1), (41, 42, 1), (21, 22, 1000), (42, 43, 1000), (2, 3, 7)] M0 (0) (1) (fun _ _ => True)) (2, [some (.ref 2), some (.int 8), some (.int v2_2), o2_3], [], M)) ∧
      (∀ (M : zM) (v28_2 : Int32) (o28_3 : Option Value), zJ N [(2, 3, 0), (2, 3, 1), (20, 21, 1), (41, 42, 1), (21, 22, 1000), (42, 43, 1000), (2, 3, 7)] M0 M → ((0 : Int) ≤ v28_2.toInt) → (v28_2.toInt ≤ 1601) → 2 < (n : Int) → ZW X (d + 3) 5 false (some .boolean) cX5_readFact (zRI N [(2, 3, 0), (2, 3, 1), (20, 21, 1), (41, 42, 1), (21, 22, 1000), (42, 43, 1000), (2, 3, 7)] M0 (0) (1) (fun _ _ => True)) (28, [some (.ref 2), some (.int 8), some (.int v28_2), o28_3], [], M)) ∧
      (∀ (M : zM) (v167_2 : Int32) (o167_3 : Option Value) (s167_0 : Int32), zJ N [(2, 3, 0), (2, 3, 1), (20, 21, 1), (41, 42, 1), (21, 22, 1000), (42, 43, 1000), (2, 3, 7)] M0 M → ((0 : Int) ≤ v167_2.toInt) → (v167_2.toInt ≤ 1601) → ((-16 : Int) ≤ s167_0.toInt) → (s167_0.toInt ≤ 0) → 1 < (n : Int) → ZW X (d + 3) 5 false (some .boolean) cX5_readFact (zRI N [(2, 3, 0), (2, 3, 1), (20, 21, 1), (41, 42, 1), (21, 22, 1000), (42, 43, 1000), (2, 3, 7)] M0 (0) (1) (fun _ _ => True)) (167, [some (.ref 2), some (.int 8), some (.int v167_2), o167_3], [.int s167_0], M)) := by
    intro n
    induction n with
    | zero =>
      exact ⟨(fun M v2_2 o2_3 hJ v2_20 v2_21 hn => absurd hn (by omega)), (fun M v28_2 o28_3 hJ v28_20 v28_21 hn => absurd hn (by omega)), (fun M v167_2 o167_3 s167_0 hJ v167_20 v167_21 s167_00 s167_01 hn => absurd hn (by omega))⟩
    | succ n ih =>
      obtain ⟨ih2, ih28, ih167⟩ := ih
      refine ⟨?_, ?_, ?_⟩
      · intro M v2_2 o2_3 hJ v2_20 v2_21 hn
        refine w_lo dX5_readFact_2 rfl rfl rfl rfl ?_
        refine w_si dX5_readFact_3 (c := 1600) (by decide) ?_
        rcases zcut (1600 : Int) v2_2.toInt with h1 | h1
        · skip
          refine w_cgt_t dX5_readFact_6 (t := 28) rfl (by have := zt_1600; omega) ?_
          exact ih28 M v2_2 o2_3 hJ (by omega) (by omega) (by have := zt_8; omega)
        · skip
          refine w_cgt_f dX5_readFact_6 (t := 28) rfl (by have := zt_1600; omega) ?_
          refine w_lo dX5_readFact_9 rfl rfl rfl rfl ?_
          refine w_iv dX5_readFact_10 rfl rfl (As := []) rfl rfl hJ.1.1 zs_2 (Nat.le_of_ble_eq_true rfl) ?_
          refine ZV.imp (k_1287 hN hJ.1) ?_
          rintro _ ⟨x5, M2, rfl, h6, h7, hJ3, hq4⟩
          have hJ8 := zJ_trans hJ hJ3 zSub_nil
          show ZW _ _ _ _ _ _ _ (13, [some (.ref 2), some (.int 8), some (.int v2_2), o2_3], [.int x5], M2)
          refine w_bi dX5_readFact_13 (c := 23) (by decide) ?_
          rcases Int.decEq x5.toInt (23 : Int) with h9 | h9
          · skip
            refine w_cne_t dX5_readFact_15 (t := 28) rfl (by have := zt_23; omega) ?_
            exact ih28 M2 v2_2 o2_3 hJ8 (by omega) (by omega) (by have := zt_8; omega)
          · skip
            refine w_cne_f dX5_readFact_15 (t := 28) rfl (by have := zt_23; omega) ?_
            refine w_lo dX5_readFact_18 rfl rfl rfl rfl ?_
            refine w_iv dX5_readFact_19 rfl rfl (As := []) rfl rfl hJ8.1.1 zs_2 (Nat.le_of_ble_eq_true rfl) ?_
            refine ZV.imp (k_1289 hN hJ8.1) ?_
            rintro _ ⟨M10, rfl, hJ11, hq12⟩
            have hJ13 := zJ_trans hJ8 hJ11 (zSub_cons (fun _ _ h h' hk => zIR_s (zIR_s (zIR_s (zIR_s (zIR_s (zIR_s (zIR_e (by omega) (by omega) hk))))))) zSub_nil)
            show ZW _ _ _ _ _ _ _ (22, [some (.ref 2), some (.int 8), some (.int v2_2), o2_3], [], M10)
            refine w_inc (kk := 2) dX5_readFact_22 rfl (m := 1) (by decide) (by omega) ?_
            intro x14 h15
            refine ⟨_, rfl, ?_⟩
            show ZW _ _ _ _ _ _ _ (25, [some (.ref 2), some (.int 8), some (.int x14), o2_3], [], M10)
            refine w_gt dX5_readFact_25 (t := 2) rfl ?_
            exact ih2 M10 x14 o2_3 hJ13 (by omega) (by omega) (by have := zt_8; omega)
      · intro M v28_2 o28_3 hJ v28_20 v28_21 hn
        refine w_lo dX5_readFact_28 rfl rfl rfl rfl ?_
        refine w_bi dX5_readFact_29 (c := 91) (by decide) ?_
        refine w_iv dX5_readFact_31 rfl rfl (As := [.int 91]) rfl rfl hJ.1.1 zs_2 (Nat.le_of_ble_eq_true rfl) ?_
        refine ZV.imp (k_1299 91 (by have := zt_91; omega) (by have := zt_91; omega) hN hJ.1) ?_
        rintro _ ⟨x19, M16, rfl, h20, h21, hJ17, hq18⟩
        have hJ22 := zJ_trans hJ hJ17 zSub_nil
        show ZW _ _ _ _ _ _ _ (34, [some (.ref 2), some (.int 8), some (.int v28_2), o28_3], [.int x19], M16)
        rcases Int.decEq x19.toInt (0 : Int) with h23 | h23
        · skip
          refine w_ieq_f dX5_readFact_34 (t := 87) rfl (by omega) ?_
          refine w_lo dX5_readFact_37 rfl rfl rfl rfl ?_
          refine w_bi dX5_readFact_38 (c := 8) (by decide) ?_
          refine w_clt_f dX5_readFact_40 (t := 49) rfl (by have := zt_8; have := zt_8; omega) ?_
          refine w_lo dX5_readFact_43 rfl rfl rfl rfl ?_
          refine w_ic dX5_readFact_44 zi_5 ?_
          refine w_iv dX5_readFact_45 rfl rfl (As := [.int 5]) rfl rfl hJ22.1.1 zs_2 (Nat.le_of_ble_eq_true rfl) ?_
          refine ZV.imp (k_1286 5 (by have := zt_5; omega) (by have := zt_5; omega) hN hJ22.1) ?_
          rintro _ ⟨x27, M24, rfl, h28, h29, hJ25, hq26⟩
          have hJ30 := zJ_trans hJ22 hJ25 (zSub_cons (fun _ _ h h' hk => zIR_e (by omega) (by omega) hk) (zSub_cons (fun _ _ h h' hk => zIR_s (zIR_e (by omega) (by omega) hk)) zSub_nil))
          show ZW _ _ _ _ _ _ _ (48, [some (.ref 2), some (.int 8), some (.int v28_2), o28_3], [.int x27], M24)
          refine w_eni dX5_readFact_48 rfl (znb (by omega) (by omega)) ?_
          exact ⟨_, _, rfl, (by omega), (by omega), hJ30, trivial⟩
        · skip
          refine w_ieq_t dX5_readFact_34 (t := 87) rfl (by omega) ?_
          refine w_lo dX5_readFact_87 rfl rfl rfl rfl ?_
          refine w_iv dX5_readFact_88 rfl rfl (As := []) rfl rfl hJ22.1.1 zs_2 (Nat.le_of_ble_eq_true rfl) ?_
          refine ZV.imp (k_1287 hN hJ22.1) ?_
          rintro _ ⟨x34, M31, rfl, h35, h36, hJ32, hq33⟩
          have hJ37 := zJ_trans hJ22 hJ32 zSub_nil
          show ZW _ _ _ _ _ _ _ (91, [some (.ref 2), some (.int 8), some (.int v28_2), o28_3], [.int x34], M31)
          refine w_bi dX5_readFact_91 (c := 24) (by decide) ?_
          rcases Int.decEq x34.toInt (24 : Int) with h38 | h38
          · skip
            refine w_cne_t dX5_readFact_93 (t := 114) rfl (by have := zt_24; omega) ?_
            refine w_lo dX5_readFact_114 rfl rfl rfl rfl ?_
            refine w_lo dX5_readFact_115 rfl rfl rfl rfl ?_
            refine w_iv dX5_readFact_116 rfl rfl (As := [.int 8]) rfl rfl hJ37.1.1 zs_2 (Nat.le_of_ble_eq_true rfl) ?_
            refine ZV.imp (k_1297_c8 hN hJ37.1) ?_
            rintro _ ⟨x42, M39, rfl, h43, h44, hJ40, hq41⟩
            have hJ45 := zJ_trans hJ37 hJ40 (zSub_cons (fun _ _ h h' hk => zIR_e (by omega) (by omega) hk) (zSub_cons (fun _ _ h h' hk => zIR_s (zIR_e (by omega) (by omega) hk)) (zSub_cons (fun _ _ h h' hk => zIR_s (zIR_s (zIR_e (by omega) (by omega) hk))) (zSub_cons (fun _ _ h h' hk => zIR_s (zIR_s (zIR_s (zIR_e (by omega) (by omega) hk)))) (zSub_cons (fun _ _ h h' hk => zIR_s (zIR_s (zIR_s (zIR_s (zIR_a (by omega) (by omega)))))) (zSub_cons (fun _ _ h h' hk => zIR_s (zIR_s (zIR_s (zIR_s (zIR_s (zIR_a (by omega) (by omega))))))) (zSub_cons (fun _ _ h h' hk => zIR_s (zIR_s (zIR_s (zIR_s (zIR_s (zIR_s (zIR_e (by omega) (by omega) hk))))))) zSub_nil)))))))
            show ZW _ _ _ _ _ _ _ (119, [some (.ref 2), some (.int 8), some (.int v28_2), o28_3], [.int x42], M39)
            rcases Int.decEq x42.toInt (0 : Int) with h46 | h46
            · skip
              refine w_ine_t dX5_readFact_119 (t := 124) rfl (by omega) ?_
              refine w_lo dX5_readFact_124 rfl rfl rfl rfl ?_
              refine w_bi dX5_readFact_125 (c := 60) (by decide) ?_
              refine w_iv dX5_readFact_127 rfl rfl (As := [.int 60]) rfl rfl hJ45.1.1 zs_2 (Nat.le_of_ble_eq_true rfl) ?_
              refine ZV.imp (k_1299 60 (by have := zt_60; omega) (by have := zt_60; omega) hN hJ45.1) ?_
              rintro _ ⟨x50, M47, rfl, h51, h52, hJ48, hq49⟩
              have hJ53 := zJ_trans hJ45 hJ48 zSub_nil
              show ZW _ _ _ _ _ _ _ (130, [some (.ref 2), some (.int 8), some (.int v28_2), o28_3], [.int x50], M47)
              rcases Int.decEq x50.toInt (0 : Int) with h54 | h54
              · skip
                refine w_ieq_f dX5_readFact_130 (t := 138) rfl (by omega) ?_
                refine w_bi dX5_readFact_133 (c := (-14)) (by decide) ?_
                refine w_gt dX5_readFact_135 (t := 167) rfl ?_
                exact ih167 M47 v28_2 o28_3 (-14) hJ53 (by omega) (by omega) (by have := zt_m14; omega) (by have := zt_m14; omega) (by have := zt_8; have := zt_m14; omega)
              · skip
                refine w_ieq_t dX5_readFact_130 (t := 138) rfl (by omega) ?_
                refine w_lo dX5_readFact_138 rfl rfl rfl rfl ?_
                refine w_bi dX5_readFact_139 (c := 62) (by decide) ?_
                refine w_iv dX5_readFact_141 rfl rfl (As := [.int 62]) rfl rfl hJ53.1.1 zs_2 (Nat.le_of_ble_eq_true rfl) ?_
                refine ZV.imp (k_1299 62 (by have := zt_62; omega) (by have := zt_62; omega) hN hJ53.1) ?_
                rintro _ ⟨x58, M55, rfl, h59, h60, hJ56, hq57⟩
                have hJ61 := zJ_trans hJ53 hJ56 zSub_nil
                show ZW _ _ _ _ _ _ _ (144, [some (.ref 2), some (.int 8), some (.int v28_2), o28_3], [.int x58], M55)
                rcases Int.decEq x58.toInt (0 : Int) with h62 | h62
                · skip
                  refine w_ieq_f dX5_readFact_144 (t := 152) rfl (by omega) ?_
                  refine w_bi dX5_readFact_147 (c := (-15)) (by decide) ?_
                  refine w_gt dX5_readFact_149 (t := 167) rfl ?_
                  exact ih167 M55 v28_2 o28_3 (-15) hJ61 (by omega) (by omega) (by have := zt_m15; omega) (by have := zt_m15; omega) (by have := zt_8; have := zt_m15; omega)
                · skip
                  refine w_ieq_t dX5_readFact_144 (t := 152) rfl (by omega) ?_
                  refine w_lo dX5_readFact_152 rfl rfl rfl rfl ?_
                  refine w_bi dX5_readFact_153 (c := 61) (by decide) ?_
                  refine w_iv dX5_readFact_155 rfl rfl (As := [.int 61]) rfl rfl hJ61.1.1 zs_2 (Nat.le_of_ble_eq_true rfl) ?_
                  refine ZV.imp (k_1299 61 (by have := zt_61; omega) (by have := zt_61; omega) hN hJ61.1) ?_
                  rintro _ ⟨x66, M63, rfl, h67, h68, hJ64, hq65⟩
                  have hJ69 := zJ_trans hJ61 hJ64 zSub_nil
                  show ZW _ _ _ _ _ _ _ (158, [some (.ref 2), some (.int 8), some (.int v28_2), o28_3], [.int x66], M63)
                  rcases Int.decEq x66.toInt (0 : Int) with h70 | h70
                  · skip
                    refine w_ieq_f dX5_readFact_158 (t := 166) rfl (by omega) ?_
                    refine w_bi dX5_readFact_161 (c := (-16)) (by decide) ?_
                    refine w_gt dX5_readFact_163 (t := 167) rfl ?_
                    exact ih167 M63 v28_2 o28_3 (-16) hJ69 (by omega) (by omega) (by have := zt_m16; omega) (by have := zt_m16; omega) (by have := zt_8; have := zt_m16; omega)
                  · skip
                    refine w_ieq_t dX5_readFact_158 (t := 166) rfl (by omega) ?_
                    refine w_ic dX5_readFact_166 zi_0 ?_
                    exact ih167 M63 v28_2 o28_3 0 hJ69 (by omega) (by omega) (by have := zt_0; omega) (by have := zt_0; omega) (by have := zt_8; have := zt_0; omega)
            · skip
              refine w_ine_f dX5_readFact_119 (t := 124) rfl (by omega) ?_
              refine w_ic dX5_readFact_122 zi_0 ?_
              refine w_en dX5_readFact_123 rfl ?_
              exact ⟨_, _, rfl, (by have := zt_0; omega), (by have := zt_0; omega), hJ45, trivial⟩
          · skip
            refine w_cne_f dX5_readFact_93 (t := 114) rfl (by have := zt_24; omega) ?_
            refine w_lo dX5_readFact_96 rfl rfl rfl rfl ?_
            refine w_iv dX5_readFact_97 rfl rfl (As := []) rfl rfl hJ37.1.1 zs_2 (Nat.le_of_ble_eq_true rfl) ?_
            refine ZV.imp (k_1289 hN hJ37.1) ?_
            rintro _ ⟨M71, rfl, hJ72, hq73⟩
            have hJ74 := zJ_trans hJ37 hJ72 (zSub_cons (fun _ _ h h' hk => zIR_s (zIR_s (zIR_s (zIR_s (zIR_s (zIR_s (zIR_e (by omega) (by omega) hk))))))) zSub_nil)
            show ZW _ _ _ _ _ _ _ (100, [some (.ref 2), some (.int 8), some (.int v28_2), o28_3], [], M71)
            refine w_lo dX5_readFact_100 rfl rfl rfl rfl ?_
            obtain ⟨b75, f76, h77⟩ := zd_2_8 hJ74.1
            have h78 := zDm_b h77
            refine w_gf dX5_readFact_101 rfl hJ74.1.1 zs_2 f76 ?_
            refine w_gf dX5_readFact_104 rfl hJ74.1.1 (zs_1_0 h77) (zr_1_0_15 h77 hJ74.1) ?_
            refine w_ic dX5_readFact_107 zi_1 ?_
            refine w_iv dX5_readFact_108 rfl rfl (As := [.int 1]) rfl rfl hJ74.1.1 (zs_1_13 h77) (Nat.le_of_ble_eq_true rfl) ?_
            refine ZV.imp (k_515 (b75 + 13) (zLw_of h77) 1 hN hJ74.1) ?_
            rintro _ ⟨M79, rfl, hJ80, hq81⟩
            have hJ82 := zJ_trans hJ74 hJ80 (zSub_cons (fun _ _ h h' hk => ((zDm_or h77).elim (fun e => zIR_s (zIR_s (zIR_e (by omega) (by omega) hk))) (fun e => zIR_s (zIR_s (zIR_s (zIR_e (by omega) (by omega) hk)))))) (zSub_cons (fun _ _ h h' hk => ((zDm_or h77).elim (fun e => zIR_s (zIR_s (zIR_s (zIR_s (zIR_a (by omega) (by omega)))))) (fun e => zIR_s (zIR_s (zIR_s (zIR_s (zIR_s (zIR_a (by omega) (by omega))))))))) zSub_nil))
            show ZW _ _ _ _ _ _ _ (111, [some (.ref 2), some (.int 8), some (.int v28_2), o28_3], [], M79)
            refine w_gt dX5_readFact_111 (t := 203) rfl ?_
            refine w_lo dX5_readFact_203 rfl rfl rfl rfl ?_
            refine w_ic dX5_readFact_204 zi_2 ?_
            refine w_remP dX5_readFact_205 (by omega) (by have := zt_2; omega) ?_
            intro x83 h84 h85 h86
            have := zt_2
            refine w_ic dX5_readFact_206 zi_1 ?_
            rcases Int.decEq x83.toInt (1 : Int) with h87 | h87
            · skip
              refine w_cne_t dX5_readFact_207 (t := 222) rfl (by have := zt_1; omega) ?_
              refine w_ic dX5_readFact_222 zi_1 ?_
              refine w_en dX5_readFact_223 rfl ?_
              exact ⟨_, _, rfl, (by have := zt_1; omega), (by have := zt_1; omega), hJ82, trivial⟩
            · skip
              refine w_cne_f dX5_readFact_207 (t := 222) rfl (by have := zt_1; omega) ?_
              refine w_lo dX5_readFact_210 rfl rfl rfl rfl ?_
              have f88 := (hJ80.2 (2) 8 (zNI_k (by decide) (by decide) (zNI (by omega) zNI_nil))).trans (f76)
              refine w_gf dX5_readFact_211 rfl hJ82.1.1 zs_2 f88 ?_
              refine w_gf dX5_readFact_214 rfl hJ82.1.1 (zs_1_0 h77) (zr_1_0_15 h77 hJ82.1) ?_
              refine w_bi dX5_readFact_217 (c := (-8)) (by decide) ?_
              refine w_iv dX5_readFact_219 rfl rfl (As := [.int (-8)]) rfl rfl hJ82.1.1 (zs_1_13 h77) (Nat.le_of_ble_eq_true rfl) ?_
              refine ZV.imp (k_515 (b75 + 13) (zLw_of h77) (-8) hN hJ82.1) ?_
              rintro _ ⟨M89, rfl, hJ90, hq91⟩
              have hJ92 := zJ_trans hJ82 hJ90 (zSub_cons (fun _ _ h h' hk => ((zDm_or h77).elim (fun e => zIR_s (zIR_s (zIR_e (by omega) (by omega) hk))) (fun e => zIR_s (zIR_s (zIR_s (zIR_e (by omega) (by omega) hk)))))) (zSub_cons (fun _ _ h h' hk => ((zDm_or h77).elim (fun e => zIR_s (zIR_s (zIR_s (zIR_s (zIR_a (by omega) (by omega)))))) (fun e => zIR_s (zIR_s (zIR_s (zIR_s (zIR_s (zIR_a (by omega) (by omega))))))))) zSub_nil))
              show ZW _ _ _ _ _ _ _ (222, [some (.ref 2), some (.int 8), some (.int v28_2), o28_3], [], M89)
              refine w_ic dX5_readFact_222 zi_1 ?_
              refine w_en dX5_readFact_223 rfl ?_
              exact ⟨_, _, rfl, (by have := zt_1; omega), (by have := zt_1; omega), hJ92, trivial⟩
      · intro M v167_2 o167_3 s167_0 hJ v167_20 v167_21 s167_00 s167_01 hn
        refine w_lo (ml' := [some (.ref 2), some (.int 8), some (.int v167_2), some (.int s167_0)]) dX5_readFact_167 rfl rfl rfl rfl ?_
        refine w_lo dX5_readFact_168 rfl rfl rfl rfl ?_
        rcases Int.decEq s167_0.toInt (0 : Int) with h93 | h93
        · skip
          refine w_ine_t dX5_readFact_169 (t := 178) rfl (by omega) ?_
          refine w_lo dX5_readFact_178 rfl rfl rfl rfl ?_
          refine w_iv dX5_readFact_179 rfl rfl (As := []) rfl rfl hJ.1.1 zs_2 (Nat.le_of_ble_eq_true rfl) ?_
          refine ZV.imp (k_1289 hN hJ.1) ?_
          rintro _ ⟨M94, rfl, hJ95, hq96⟩
          have hJ97 := zJ_trans hJ hJ95 (zSub_cons (fun _ _ h h' hk => zIR_s (zIR_s (zIR_s (zIR_s (zIR_s (zIR_s (zIR_e (by omega) (by omega) hk))))))) zSub_nil)
          show ZW _ _ _ _ _ _ _ (182, [some (.ref 2), some (.int 8), some (.int v167_2), some (.int s167_0)], [], M94)
          refine w_lo dX5_readFact_182 rfl rfl rfl rfl ?_
          refine w_lo dX5_readFact_183 rfl rfl rfl rfl ?_
          refine w_iv dX5_readFact_184 rfl rfl (As := [.int 8]) rfl rfl hJ97.1.1 zs_2 (Nat.le_of_ble_eq_true rfl) ?_
          refine ZV.imp (k_1297_c8 hN hJ97.1) ?_
          rintro _ ⟨x101, M98, rfl, h102, h103, hJ99, hq100⟩
          have hJ104 := zJ_trans hJ97 hJ99 (zSub_cons (fun _ _ h h' hk => zIR_e (by omega) (by omega) hk) (zSub_cons (fun _ _ h h' hk => zIR_s (zIR_e (by omega) (by omega) hk)) (zSub_cons (fun _ _ h h' hk => zIR_s (zIR_s (zIR_e (by omega) (by omega) hk))) (zSub_cons (fun _ _ h h' hk => zIR_s (zIR_s (zIR_s (zIR_e (by omega) (by omega) hk)))) (zSub_cons (fun _ _ h h' hk => zIR_s (zIR_s (zIR_s (zIR_s (zIR_a (by omega) (by omega)))))) (zSub_cons (fun _ _ h h' hk => zIR_s (zIR_s (zIR_s (zIR_s (zIR_s (zIR_a (by omega) (by omega))))))) (zSub_cons (fun _ _ h h' hk => zIR_s (zIR_s (zIR_s (zIR_s (zIR_s (zIR_s (zIR_e (by omega) (by omega) hk))))))) zSub_nil)))))))
          show ZW _ _ _ _ _ _ _ (187, [some (.ref 2), some (.int 8), some (.int v167_2), some (.int s167_0)], [.int x101], M98)
          rcases Int.decEq x101.toInt (0 : Int) with h105 | h105
          · skip
            refine w_ine_t dX5_readFact_187 (t := 192) rfl (by omega) ?_
            refine w_lo dX5_readFact_192 rfl rfl rfl rfl ?_
            obtain ⟨b106, f107, h108⟩ := zd_2_8 hJ104.1
            have h109 := zDm_b h108
            refine w_gf dX5_readFact_193 rfl hJ104.1.1 zs_2 f107 ?_
            refine w_gf dX5_readFact_196 rfl hJ104.1.1 (zs_1_0 h108) (zr_1_0_15 h108 hJ104.1) ?_
            refine w_lo dX5_readFact_199 rfl rfl rfl rfl ?_
            refine w_iv dX5_readFact_200 rfl rfl (As := [.int s167_0]) rfl rfl hJ104.1.1 (zs_1_13 h108) (Nat.le_of_ble_eq_true rfl) ?_
            refine ZV.imp (k_515 (b106 + 13) (zLw_of h108) s167_0 hN hJ104.1) ?_
            rintro _ ⟨M110, rfl, hJ111, hq112⟩
            have hJ113 := zJ_trans hJ104 hJ111 (zSub_cons (fun _ _ h h' hk => ((zDm_or h108).elim (fun e => zIR_s (zIR_s (zIR_e (by omega) (by omega) hk))) (fun e => zIR_s (zIR_s (zIR_s (zIR_e (by omega) (by omega) hk)))))) (zSub_cons (fun _ _ h h' hk => ((zDm_or h108).elim (fun e => zIR_s (zIR_s (zIR_s (zIR_s (zIR_a (by omega) (by omega)))))) (fun e => zIR_s (zIR_s (zIR_s (zIR_s (zIR_s (zIR_a (by omega) (by omega))))))))) zSub_nil))
            show ZW _ _ _ _ _ _ _ (203, [some (.ref 2), some (.int 8), some (.int v167_2), some (.int s167_0)], [], M110)
            refine w_lo dX5_readFact_203 rfl rfl rfl rfl ?_
            refine w_ic dX5_readFact_204 zi_2 ?_
            refine w_remP dX5_readFact_205 (by omega) (by have := zt_2; omega) ?_
            intro x114 h115 h116 h117
            have := zt_2
            refine w_ic dX5_readFact_206 zi_1 ?_
            rcases Int.decEq x114.toInt (1 : Int) with h118 | h118
            · skip
              refine w_cne_t dX5_readFact_207 (t := 222) rfl (by have := zt_1; omega) ?_
              refine w_ic dX5_readFact_222 zi_1 ?_
              refine w_en dX5_readFact_223 rfl ?_
              exact ⟨_, _, rfl, (by have := zt_1; omega), (by have := zt_1; omega), hJ113, trivial⟩
            · skip
              refine w_cne_f dX5_readFact_207 (t := 222) rfl (by have := zt_1; omega) ?_
              refine w_lo dX5_readFact_210 rfl rfl rfl rfl ?_
              have f119 := (hJ111.2 (2) 8 (zNI_k (by decide) (by decide) (zNI (by omega) zNI_nil))).trans (f107)
              refine w_gf dX5_readFact_211 rfl hJ113.1.1 zs_2 f119 ?_
              refine w_gf dX5_readFact_214 rfl hJ113.1.1 (zs_1_0 h108) (zr_1_0_15 h108 hJ113.1) ?_
              refine w_bi dX5_readFact_217 (c := (-8)) (by decide) ?_
              refine w_iv dX5_readFact_219 rfl rfl (As := [.int (-8)]) rfl rfl hJ113.1.1 (zs_1_13 h108) (Nat.le_of_ble_eq_true rfl) ?_
              refine ZV.imp (k_515 (b106 + 13) (zLw_of h108) (-8) hN hJ113.1) ?_
              rintro _ ⟨M120, rfl, hJ121, hq122⟩
              have hJ123 := zJ_trans hJ113 hJ121 (zSub_cons (fun _ _ h h' hk => ((zDm_or h108).elim (fun e => zIR_s (zIR_s (zIR_e (by omega) (by omega) hk))) (fun e => zIR_s (zIR_s (zIR_s (zIR_e (by omega) (by omega) hk)))))) (zSub_cons (fun _ _ h h' hk => ((zDm_or h108).elim (fun e => zIR_s (zIR_s (zIR_s (zIR_s (zIR_a (by omega) (by omega)))))) (fun e => zIR_s (zIR_s (zIR_s (zIR_s (zIR_s (zIR_a (by omega) (by omega))))))))) zSub_nil))
              show ZW _ _ _ _ _ _ _ (222, [some (.ref 2), some (.int 8), some (.int v167_2), some (.int s167_0)], [], M120)
              refine w_ic dX5_readFact_222 zi_1 ?_
              refine w_en dX5_readFact_223 rfl ?_
              exact ⟨_, _, rfl, (by have := zt_1; omega), (by have := zt_1; omega), hJ123, trivial⟩
          · skip
            refine w_ine_f dX5_readFact_187 (t := 192) rfl (by omega) ?_
            refine w_ic dX5_readFact_190 zi_0 ?_
            refine w_en dX5_readFact_191 rfl ?_
            exact ⟨_, _, rfl, (by have := zt_0; omega), (by have := zt_0; omega), hJ104, trivial⟩
        · skip
          refine w_ine_f dX5_readFact_169 (t := 178) rfl (by omega) ?_
          refine w_lo dX5_readFact_172 rfl rfl rfl rfl ?_
          refine w_ic dX5_readFact_173 zi_1 ?_
          refine w_iv dX5_readFact_174 rfl rfl (As := [.int 1]) rfl rfl hJ.1.1 zs_2 (Nat.le_of_ble_eq_true rfl) ?_
          refine ZV.imp (k_1286 1 (by have := zt_1; omega) (by have := zt_1; omega) hN hJ.1) ?_
          rintro _ ⟨x127, M124, rfl, h128, h129, hJ125, hq126⟩
          have hJ130 := zJ_trans hJ hJ125 (zSub_cons (fun _ _ h h' hk => zIR_e (by omega) (by omega) hk) (zSub_cons (fun _ _ h h' hk => zIR_s (zIR_e (by omega) (by omega) hk)) zSub_nil))
          show ZW _ _ _ _ _ _ _ (177, [some (.ref 2), some (.int 8), some (.int v167_2), some (.int s167_0)], [.int x127], M124)
          refine w_eni dX5_readFact_177 rfl (znb (by omega) (by omega)) ?_
          exact ⟨_, _, rfl, (by omega), (by omega), hJ130, trivial⟩
  obtain ⟨ih2, ih28, ih167⟩ := main 8023
  show ZW _ _ _ _ _ _ _ (0, [some (.ref 2), some (.int 8), none, none], [], M0)
  refine w_ic dX5_readFact_0 zi_0 ?_
  refine w_lo (ml' := [some (.ref 2), some (.int 8), some (.int 0), none]) dX5_readFact_1 rfl rfl rfl rfl ?_
  exact ih2 M0 0 none hJ0 (by have := zt_0; omega) (by have := zt_0; omega) (by have := zt_8; have := zt_0; omega)
set_option maxRecDepth 100000 in
theorem k_1300_c8 {X : List Int32} {d N : Nat} {M0 : zM}  (hN : N ≤ 600) (hB0 : zB N M0) : ZV X (d + 5) 1300 [.ref 2, .int 8] M0 (zRI N [(2, 3, 0), (2, 3, 1), (20, 21, 1), (41, 42, 1), (21, 22, 1000), (42, 43, 1000), (2, 3, 7)] M0 (0) (1) (fun _ _ => True)) := by
  have hJ0 : zJ N [(2, 3, 0), (2, 3, 1), (20, 21, 1), (41, 42, 1), (21, 22, 1000), (42, 43, 1000), (2, 3, 7)] M0 M0 := zJ_refl hB0
  refine ZV.of (ini := false) rfl (Nat.le_of_ble_eq_true rfl) (by decide +kernel) ?_
  have main : ∀ n : Nat,
      (∀ (M : zM) (v2_2 : Int32) (o2_3 : Option Value), zJ N [(2, 3, 0), (2, 3, 1), (20, 21, 1), (41, 42, 1), (21, 22, 1000), (42, 43, 1000), (2, 3, 7)] M0 M → ((0 : Int) ≤ v2_2.toInt) → (v2_2.toInt ≤ 1601) → 9624 * (1601 - v2_2.toInt) + 9622 < (n : Int) → ZW X (d + 4) 5 false (some .boolean) cX5_readTest (zRI N [(2, 3, 0), (2, 3, 1), (20, 21, 1), (41, 42, 1), (21, 22, 1000), (42, 43, 1000), (2, 3, 7)] M0 (0) (1) (fun _ _ => True)) (2, [some (.ref 2), some (.int 8), some (.int v2_2), o2_3], [], M)) ∧
      (∀ (M : zM) (v11_2 : Int32) (v11_3 : Int32), zJ N [(2, 3, 0), (2, 3, 1), (20, 21, 1), (41, 42, 1), (21, 22, 1000), (42, 43, 1000), (2, 3, 7)] M0 M → ((0 : Int) ≤ v11_2.toInt) → (v11_2.toInt ≤ 1600) → ((0 : Int) ≤ v11_3.toInt) → (v11_3.toInt ≤ 1601) → 9624 * (1601 - v11_2.toInt) + 6 * (1601 - v11_3.toInt) + 3 < (n : Int) → ZW X (d + 4) 5 false (some .boolean) cX5_readTest (zRI N [(2, 3, 0), (2, 3, 1), (20, 21, 1), (41, 42, 1), (21, 22, 1000), (42, 43, 1000), (2, 3, 7)] M0 (0) (1) (fun _ _ => True)) (11, [some (.ref 2), some (.int 8), some (.int v11_2), some (.int v11_3)], [], M)) ∧
      (∀ (M : zM) (v44_2 : Int32) (v44_3 : Int32), zJ N [(2, 3, 0), (2, 3, 1), (20, 21, 1), (41, 42, 1), (21, 22, 1000), (42, 43, 1000), (2, 3, 7)] M0 M → ((0 : Int) ≤ v44_2.toInt) → (v44_2.toInt ≤ 1600) → ((0 : Int) ≤ v44_3.toInt) → (v44_3.toInt ≤ 1600) → 9624 * (1601 - v44_2.toInt) + 6 * (1601 - v44_3.toInt) + 2 < (n : Int) → ZW X (d + 4) 5 false (some .boolean) cX5_readTest (zRI N [(2, 3, 0), (2, 3, 1), (20, 21, 1), (41, 42, 1), (21, 22, 1000), (42, 43, 1000), (2, 3, 7)] M0 (0) (1) (fun _ _ => True)) (44, [some (.ref 2), some (.int 8), some (.int v44_2), some (.int v44_3)], [], M)) ∧
      (∀ (M : zM) (v66_2 : Int32) (u66_3 : Int32), zJ N [(2, 3, 0), (2, 3, 1), (20, 21, 1), (41, 42, 1), (21, 22, 1000), (42, 43, 1000), (2, 3, 7)] M0 M → ((0 : Int) ≤ v66_2.toInt) → (v66_2.toInt ≤ 1600) → 9624 * (1601 - v66_2.toInt) + 1 < (n : Int) → ZW X (d + 4) 5 false (some .boolean) cX5_readTest (zRI N [(2, 3, 0), (2, 3, 1), (20, 21, 1), (41, 42, 1), (21, 22, 1000), (42, 43, 1000), (2, 3, 7)] M0 (0) (1) (fun _ _ => True)) (66, [some (.ref 2), some (.int 8), some (.int v66_2), some (.int u66_3)], [], M)) := by
    intro n
    induction n with
    | zero =>
      exact ⟨(fun M v2_2 o2_3 hJ v2_20 v2_21 hn => absurd hn (by omega)), (fun M v11_2 v11_3 hJ v11_20 v11_21 v11_30 v11_31 hn => absurd hn (by omega)), (fun M v44_2 v44_3 hJ v44_20 v44_21 v44_30 v44_31 hn => absurd hn (by omega)), (fun M v66_2 u66_3 hJ v66_20 v66_21 hn => absurd hn (by omega))⟩
    | succ n ih =>
      obtain ⟨ih2, ih11, ih44, ih66⟩ := ih
      refine ⟨?_, ?_, ?_, ?_⟩
      · intro M v2_2 o2_3 hJ v2_20 v2_21 hn
        refine w_lo dX5_readTest_2 rfl rfl rfl rfl ?_
        refine w_si dX5_readTest_3 (c := 1600) (by decide) ?_
        rcases zcut (1600 : Int) v2_2.toInt with h1 | h1
        · skip
          refine w_cgt_t dX5_readTest_6 (t := 104) rfl (by have := zt_1600; omega) ?_
          refine w_ic dX5_readTest_104 zi_1 ?_
          refine w_en dX5_readTest_105 rfl ?_
          exact ⟨_, _, rfl, (by have := zt_1; omega), (by have := zt_1; omega), hJ, trivial⟩
        · skip
          refine w_cgt_f dX5_readTest_6 (t := 104) rfl (by have := zt_1600; omega) ?_
          refine w_ic dX5_readTest_9 zi_0 ?_
          refine w_lo (ml' := [some (.ref 2), some (.int 8), some (.int v2_2), some (.int 0)]) dX5_readTest_10 rfl rfl rfl rfl ?_
          exact ih11 M v2_2 0 hJ (by omega) (by omega) (by have := zt_0; omega) (by have := zt_0; omega) (by have := zt_8; have := zt_0; omega)
      · intro M v11_2 v11_3 hJ v11_20 v11_21 v11_30 v11_31 hn
        refine w_lo dX5_readTest_11 rfl rfl rfl rfl ?_
        refine w_si dX5_readTest_12 (c := 1600) (by decide) ?_
        rcases zcut (1600 : Int) v11_3.toInt with h2 | h2
        · skip
          refine w_cgt_t dX5_readTest_15 (t := 66) rfl (by have := zt_1600; omega) ?_
          exact ih66 M v11_2 v11_3 hJ (by omega) (by omega) (by have := zt_8; omega)
        · skip
          refine w_cgt_f dX5_readTest_15 (t := 66) rfl (by have := zt_1600; omega) ?_
          refine w_lo dX5_readTest_18 rfl rfl rfl rfl ?_
          refine w_lo dX5_readTest_19 rfl rfl rfl rfl ?_
          refine w_iv dX5_readTest_20 rfl rfl (As := [.int 8]) rfl rfl hJ.1.1 zs_2 (Nat.le_of_ble_eq_true rfl) ?_
          refine ZV.imp (k_1301_c8 hN hJ.1) ?_
          rintro _ ⟨x6, M3, rfl, h7, h8, hJ4, hq5⟩
          have hJ9 := zJ_trans hJ hJ4 (zSub_cons (fun _ _ h h' hk => zIR_e (by omega) (by omega) hk) (zSub_cons (fun _ _ h h' hk => zIR_s (zIR_e (by omega) (by omega) hk)) (zSub_cons (fun _ _ h h' hk => zIR_s (zIR_s (zIR_e (by omega) (by omega) hk))) (zSub_cons (fun _ _ h h' hk => zIR_s (zIR_s (zIR_s (zIR_e (by omega) (by omega) hk)))) (zSub_cons (fun _ _ h h' hk => zIR_s (zIR_s (zIR_s (zIR_s (zIR_a (by omega) (by omega)))))) (zSub_cons (fun _ _ h h' hk => zIR_s (zIR_s (zIR_s (zIR_s (zIR_s (zIR_a (by omega) (by omega))))))) (zSub_cons (fun _ _ h h' hk => zIR_s (zIR_s (zIR_s (zIR_s (zIR_s (zIR_s (zIR_e (by omega) (by omega) hk))))))) zSub_nil)))))))
          show ZW _ _ _ _ _ _ _ (23, [some (.ref 2), some (.int 8), some (.int v11_2), some (.int v11_3)], [.int x6], M3)
          rcases Int.decEq x6.toInt (0 : Int) with h10 | h10
          · skip
            refine w_ine_t dX5_readTest_23 (t := 28) rfl (by omega) ?_
            refine w_lo dX5_readTest_28 rfl rfl rfl rfl ?_
            rcases zcut (0 : Int) v11_3.toInt with h11 | h11
            · skip
              refine w_ile_f dX5_readTest_29 (t := 44) rfl (by omega) ?_
              refine w_lo dX5_readTest_32 rfl rfl rfl rfl ?_
              obtain ⟨b12, f13, h14⟩ := zd_2_8 hJ9.1
              have h15 := zDm_b h14
              refine w_gf dX5_readTest_33 rfl hJ9.1.1 zs_2 f13 ?_
              refine w_gf dX5_readTest_36 rfl hJ9.1.1 (zs_1_0 h14) (zr_1_0_15 h14 hJ9.1) ?_
              refine w_bi dX5_readTest_39 (c := (-17)) (by decide) ?_
              refine w_iv dX5_readTest_41 rfl rfl (As := [.int (-17)]) rfl rfl hJ9.1.1 (zs_1_13 h14) (Nat.le_of_ble_eq_true rfl) ?_
              refine ZV.imp (k_515 (b12 + 13) (zLw_of h14) (-17) hN hJ9.1) ?_
              rintro _ ⟨M16, rfl, hJ17, hq18⟩
              have hJ19 := zJ_trans hJ9 hJ17 (zSub_cons (fun _ _ h h' hk => ((zDm_or h14).elim (fun e => zIR_s (zIR_s (zIR_e (by omega) (by omega) hk))) (fun e => zIR_s (zIR_s (zIR_s (zIR_e (by omega) (by omega) hk)))))) (zSub_cons (fun _ _ h h' hk => ((zDm_or h14).elim (fun e => zIR_s (zIR_s (zIR_s (zIR_s (zIR_a (by omega) (by omega)))))) (fun e => zIR_s (zIR_s (zIR_s (zIR_s (zIR_s (zIR_a (by omega) (by omega))))))))) zSub_nil))
              show ZW _ _ _ _ _ _ _ (44, [some (.ref 2), some (.int 8), some (.int v11_2), some (.int v11_3)], [], M16)
              exact ih44 M16 v11_2 v11_3 hJ19 (by omega) (by omega) (by omega) (by omega) (by have := zt_8; omega)
            · skip
              refine w_ile_t dX5_readTest_29 (t := 44) rfl (by omega) ?_
              exact ih44 M3 v11_2 v11_3 hJ9 (by omega) (by omega) (by omega) (by omega) (by have := zt_8; omega)
          · skip
            refine w_ine_f dX5_readTest_23 (t := 28) rfl (by omega) ?_
            refine w_ic dX5_readTest_26 zi_0 ?_
            refine w_en dX5_readTest_27 rfl ?_
            exact ⟨_, _, rfl, (by have := zt_0; omega), (by have := zt_0; omega), hJ9, trivial⟩
      · intro M v44_2 v44_3 hJ v44_20 v44_21 v44_30 v44_31 hn
        refine w_lo dX5_readTest_44 rfl rfl rfl rfl ?_
        refine w_iv dX5_readTest_45 rfl rfl (As := []) rfl rfl hJ.1.1 zs_2 (Nat.le_of_ble_eq_true rfl) ?_
        refine ZV.imp (k_1287 hN hJ.1) ?_
        rintro _ ⟨x23, M20, rfl, h24, h25, hJ21, hq22⟩
        have hJ26 := zJ_trans hJ hJ21 zSub_nil
        show ZW _ _ _ _ _ _ _ (48, [some (.ref 2), some (.int 8), some (.int v44_2), some (.int v44_3)], [.int x23], M20)
        refine w_bi dX5_readTest_48 (c := 22) (by decide) ?_
        rcases Int.decEq x23.toInt (22 : Int) with h27 | h27
        · skip
          refine w_ceq_f dX5_readTest_50 (t := 56) rfl (by have := zt_22; omega) ?_
          refine w_gt dX5_readTest_53 (t := 66) rfl ?_
          exact ih66 M20 v44_2 v44_3 hJ26 (by omega) (by omega) (by have := zt_8; omega)
        · skip
          refine w_ceq_t dX5_readTest_50 (t := 56) rfl (by have := zt_22; omega) ?_
          refine w_lo dX5_readTest_56 rfl rfl rfl rfl ?_
          refine w_iv dX5_readTest_57 rfl rfl (As := []) rfl rfl hJ26.1.1 zs_2 (Nat.le_of_ble_eq_true rfl) ?_
          refine ZV.imp (k_1289 hN hJ26.1) ?_
          rintro _ ⟨M28, rfl, hJ29, hq30⟩
          have hJ31 := zJ_trans hJ26 hJ29 (zSub_cons (fun _ _ h h' hk => zIR_s (zIR_s (zIR_s (zIR_s (zIR_s (zIR_s (zIR_e (by omega) (by omega) hk))))))) zSub_nil)
          show ZW _ _ _ _ _ _ _ (60, [some (.ref 2), some (.int 8), some (.int v44_2), some (.int v44_3)], [], M28)
          refine w_inc (kk := 3) dX5_readTest_60 rfl (m := 1) (by decide) (by omega) ?_
          intro x32 h33
          refine ⟨_, rfl, ?_⟩
          show ZW _ _ _ _ _ _ _ (63, [some (.ref 2), some (.int 8), some (.int v44_2), some (.int x32)], [], M28)
          refine w_gt dX5_readTest_63 (t := 11) rfl ?_
          exact ih11 M28 v44_2 x32 hJ31 (by omega) (by omega) (by omega) (by omega) (by have := zt_8; omega)
      · intro M v66_2 u66_3 hJ v66_20 v66_21 hn
        refine w_lo dX5_readTest_66 rfl rfl rfl rfl ?_
        rcases zcut (0 : Int) v66_2.toInt with h34 | h34
        · skip
          refine w_ile_f dX5_readTest_67 (t := 82) rfl (by omega) ?_
          refine w_lo dX5_readTest_70 rfl rfl rfl rfl ?_
          obtain ⟨b35, f36, h37⟩ := zd_2_8 hJ.1
          have h38 := zDm_b h37
          refine w_gf dX5_readTest_71 rfl hJ.1.1 zs_2 f36 ?_
          refine w_gf dX5_readTest_74 rfl hJ.1.1 (zs_1_0 h37) (zr_1_0_15 h37 hJ.1) ?_
          refine w_bi dX5_readTest_77 (c := (-18)) (by decide) ?_
          refine w_iv dX5_readTest_79 rfl rfl (As := [.int (-18)]) rfl rfl hJ.1.1 (zs_1_13 h37) (Nat.le_of_ble_eq_true rfl) ?_
          refine ZV.imp (k_515 (b35 + 13) (zLw_of h37) (-18) hN hJ.1) ?_
          rintro _ ⟨M39, rfl, hJ40, hq41⟩
          have hJ42 := zJ_trans hJ hJ40 (zSub_cons (fun _ _ h h' hk => ((zDm_or h37).elim (fun e => zIR_s (zIR_s (zIR_e (by omega) (by omega) hk))) (fun e => zIR_s (zIR_s (zIR_s (zIR_e (by omega) (by omega) hk)))))) (zSub_cons (fun _ _ h h' hk => ((zDm_or h37).elim (fun e => zIR_s (zIR_s (zIR_s (zIR_s (zIR_a (by omega) (by omega)))))) (fun e => zIR_s (zIR_s (zIR_s (zIR_s (zIR_s (zIR_a (by omega) (by omega))))))))) zSub_nil))
          show ZW _ _ _ _ _ _ _ (82, [some (.ref 2), some (.int 8), some (.int v66_2), some (.int u66_3)], [], M39)
          refine w_lo dX5_readTest_82 rfl rfl rfl rfl ?_
          refine w_iv dX5_readTest_83 rfl rfl (As := []) rfl rfl hJ42.1.1 zs_2 (Nat.le_of_ble_eq_true rfl) ?_
          refine ZV.imp (k_1287 hN hJ42.1) ?_
          rintro _ ⟨x46, M43, rfl, h47, h48, hJ44, hq45⟩
          have hJ49 := zJ_trans hJ42 hJ44 zSub_nil
          show ZW _ _ _ _ _ _ _ (86, [some (.ref 2), some (.int 8), some (.int v66_2), some (.int u66_3)], [.int x46], M43)
          refine w_bi dX5_readTest_86 (c := 21) (by decide) ?_
          rcases Int.decEq x46.toInt (21 : Int) with h50 | h50
          · skip
            refine w_ceq_f dX5_readTest_88 (t := 94) rfl (by have := zt_21; omega) ?_
            refine w_gt dX5_readTest_91 (t := 104) rfl ?_
            refine w_ic dX5_readTest_104 zi_1 ?_
            refine w_en dX5_readTest_105 rfl ?_
            exact ⟨_, _, rfl, (by have := zt_1; omega), (by have := zt_1; omega), hJ49, trivial⟩
          · skip
            refine w_ceq_t dX5_readTest_88 (t := 94) rfl (by have := zt_21; omega) ?_
            refine w_lo dX5_readTest_94 rfl rfl rfl rfl ?_
            refine w_iv dX5_readTest_95 rfl rfl (As := []) rfl rfl hJ49.1.1 zs_2 (Nat.le_of_ble_eq_true rfl) ?_
            refine ZV.imp (k_1289 hN hJ49.1) ?_
            rintro _ ⟨M51, rfl, hJ52, hq53⟩
            have hJ54 := zJ_trans hJ49 hJ52 (zSub_cons (fun _ _ h h' hk => zIR_s (zIR_s (zIR_s (zIR_s (zIR_s (zIR_s (zIR_e (by omega) (by omega) hk))))))) zSub_nil)
            show ZW _ _ _ _ _ _ _ (98, [some (.ref 2), some (.int 8), some (.int v66_2), some (.int u66_3)], [], M51)
            refine w_inc (kk := 2) dX5_readTest_98 rfl (m := 1) (by decide) (by omega) ?_
            intro x55 h56
            refine ⟨_, rfl, ?_⟩
            show ZW _ _ _ _ _ _ _ (101, [some (.ref 2), some (.int 8), some (.int x55), some (.int u66_3)], [], M51)
            refine w_gt dX5_readTest_101 (t := 2) rfl ?_
            exact ih2 M51 x55 (some (.int u66_3)) hJ54 (by omega) (by omega) (by have := zt_8; omega)
        · skip
          refine w_ile_t dX5_readTest_67 (t := 82) rfl (by omega) ?_
          refine w_lo dX5_readTest_82 rfl rfl rfl rfl ?_
          refine w_iv dX5_readTest_83 rfl rfl (As := []) rfl rfl hJ.1.1 zs_2 (Nat.le_of_ble_eq_true rfl) ?_
          refine ZV.imp (k_1287 hN hJ.1) ?_
          rintro _ ⟨x60, M57, rfl, h61, h62, hJ58, hq59⟩
          have hJ63 := zJ_trans hJ hJ58 zSub_nil
          show ZW _ _ _ _ _ _ _ (86, [some (.ref 2), some (.int 8), some (.int v66_2), some (.int u66_3)], [.int x60], M57)
          refine w_bi dX5_readTest_86 (c := 21) (by decide) ?_
          rcases Int.decEq x60.toInt (21 : Int) with h64 | h64
          · skip
            refine w_ceq_f dX5_readTest_88 (t := 94) rfl (by have := zt_21; omega) ?_
            refine w_gt dX5_readTest_91 (t := 104) rfl ?_
            refine w_ic dX5_readTest_104 zi_1 ?_
            refine w_en dX5_readTest_105 rfl ?_
            exact ⟨_, _, rfl, (by have := zt_1; omega), (by have := zt_1; omega), hJ63, trivial⟩
          · skip
            refine w_ceq_t dX5_readTest_88 (t := 94) rfl (by have := zt_21; omega) ?_
            refine w_lo dX5_readTest_94 rfl rfl rfl rfl ?_
            refine w_iv dX5_readTest_95 rfl rfl (As := []) rfl rfl hJ63.1.1 zs_2 (Nat.le_of_ble_eq_true rfl) ?_
            refine ZV.imp (k_1289 hN hJ63.1) ?_
            rintro _ ⟨M65, rfl, hJ66, hq67⟩
            have hJ68 := zJ_trans hJ63 hJ66 (zSub_cons (fun _ _ h h' hk => zIR_s (zIR_s (zIR_s (zIR_s (zIR_s (zIR_s (zIR_e (by omega) (by omega) hk))))))) zSub_nil)
            show ZW _ _ _ _ _ _ _ (98, [some (.ref 2), some (.int 8), some (.int v66_2), some (.int u66_3)], [], M65)
            refine w_inc (kk := 2) dX5_readTest_98 rfl (m := 1) (by decide) (by omega) ?_
            intro x69 h70
            refine ⟨_, rfl, ?_⟩
            show ZW _ _ _ _ _ _ _ (101, [some (.ref 2), some (.int 8), some (.int x69), some (.int u66_3)], [], M65)
            refine w_gt dX5_readTest_101 (t := 2) rfl ?_
            exact ih2 M65 x69 (some (.int u66_3)) hJ68 (by omega) (by omega) (by have := zt_8; omega)
  obtain ⟨ih2, ih11, ih44, ih66⟩ := main 15436899
  show ZW _ _ _ _ _ _ _ (0, [some (.ref 2), some (.int 8), none, none], [], M0)
  refine w_ic dX5_readTest_0 zi_0 ?_
  refine w_lo (ml' := [some (.ref 2), some (.int 8), some (.int 0), none]) dX5_readTest_1 rfl rfl rfl rfl ?_
  exact ih2 M0 0 none hJ0 (by have := zt_0; omega) (by have := zt_0; omega) (by have := zt_8; have := zt_0; omega)
