/-! walks of the Reader by pure conditions (wip/safe/gen32.py) -/
set_option maxRecDepth 100000 in
theorem u_1298_c5 {X : List Int32} {d N : Nat} {M0 : zM}  (hN : N ≤ 600) (hB0 : zB N M0) {Q : Int → zF → Prop} (hb : b_1298_c5 (zi M0) Q) : ZV X (d + 8) 1298 [.ref 2, .int 5] M0 (zRI N [(2, 3, 0), (2, 3, 1), (20, 21, 1), (41, 42, 1), (21, 22, 1000), (42, 43, 1000), (2, 3, 7)] M0 (0) (1) (fun v M' => Q v.toInt (zi M'))) := by
  have hJ0 : zJ N [(2, 3, 0), (2, 3, 1), (20, 21, 1), (41, 42, 1), (21, 22, 1000), (42, 43, 1000), (2, 3, 7)] M0 M0 := zJ_refl hB0
  refine ZV.of (ini := false) rfl (Nat.le_of_ble_eq_true rfl) (by decide +kernel) ?_
  obtain ⟨I73, I85, I99, hbE, hb73, hb85, hb99⟩ := hb
  replace hbE : zHd _ := hbE
  replace hb73 : zHd _ := hb73
  replace hb85 : zHd _ := hb85
  replace hb99 : zHd _ := hb99
  have main : ∀ n : Nat,
      (∀ (M : zM) (v73_2 : Int32) (o73_3 : Option Value), zJ N [(2, 3, 0), (2, 3, 1), (20, 21, 1), (41, 42, 1), (21, 22, 1000), (42, 43, 1000), (2, 3, 7)] M0 M → ((-1 : Int) ≤ v73_2.toInt) → (v73_2.toInt ≤ 26) → I73 n (zi M) v73_2.toInt → ZW X (d + 7) 5 false (some .boolean) cX5_readPart (zRI N [(2, 3, 0), (2, 3, 1), (20, 21, 1), (41, 42, 1), (21, 22, 1000), (42, 43, 1000), (2, 3, 7)] M0 (0) (1) (fun v M' => Q v.toInt (zi M'))) (73, [some (.ref 2), some (.int 5), some (.int v73_2), o73_3], [], M)) ∧
      (∀ (M : zM) (v85_2 : Int32) (o85_3 : Option Value), zJ N [(2, 3, 0), (2, 3, 1), (20, 21, 1), (41, 42, 1), (21, 22, 1000), (42, 43, 1000), (2, 3, 7)] M0 M → ((25 : Int) ≤ v85_2.toInt) → (v85_2.toInt ≤ 26) → I85 n (zi M) v85_2.toInt → ZW X (d + 7) 5 false (some .boolean) cX5_readPart (zRI N [(2, 3, 0), (2, 3, 1), (20, 21, 1), (41, 42, 1), (21, 22, 1000), (42, 43, 1000), (2, 3, 7)] M0 (0) (1) (fun v M' => Q v.toInt (zi M'))) (85, [some (.ref 2), some (.int 5), some (.int v85_2), o85_3], [], M)) ∧
      (∀ (M : zM) (v99_2 : Int32) (v99_3 : Int32), zJ N [(2, 3, 0), (2, 3, 1), (20, 21, 1), (41, 42, 1), (21, 22, 1000), (42, 43, 1000), (2, 3, 7)] M0 M → ((-1 : Int) ≤ v99_2.toInt) → (v99_2.toInt ≤ 26) → ((0 : Int) ≤ v99_3.toInt) → (v99_3.toInt ≤ 1) → I99 n (zi M) v99_2.toInt v99_3.toInt → ZW X (d + 7) 5 false (some .boolean) cX5_readPart (zRI N [(2, 3, 0), (2, 3, 1), (20, 21, 1), (41, 42, 1), (21, 22, 1000), (42, 43, 1000), (2, 3, 7)] M0 (0) (1) (fun v M' => Q v.toInt (zi M'))) (99, [some (.ref 2), some (.int 5), some (.int v99_2), some (.int v99_3)], [], M)) := by
    intro n
    induction n using Nat.strongRecOn with
    | _ n ih =>
      refine ⟨?_, ?_, ?_⟩
      · intro M v73_2 o73_3 hJ v73_20 v73_21 hI
        have hb : zHd _ := hb73 n (zi M) v73_2.toInt (zi_fr hJ.2) v73_20 v73_21 hI
        refine w_lo dX5_readPart_73 rfl rfl rfl rfl ?_
        refine w_bi dX5_readPart_74 (c := 25) (by decide) ?_
        rcases Int.decEq v73_2.toInt (25 : Int) with h1 | h1
        · skip
          replace hb : zHd _ := hb.1 h1
          refine w_ceq_f dX5_readPart_76 (t := 85) rfl (by have := zt_25; omega) ?_
          refine w_lo dX5_readPart_79 rfl rfl rfl rfl ?_
          refine w_bi dX5_readPart_80 (c := 26) (by decide) ?_
          rcases Int.decEq v73_2.toInt (26 : Int) with h2 | h2
          · skip
            replace hb : zHd _ := hb.1 h2
            refine w_cne_t dX5_readPart_82 (t := 89) rfl (by have := zt_26; omega) ?_
            refine w_ic dX5_readPart_89 zi_0 ?_
            refine w_lo (ml' := [some (.ref 2), some (.int 5), some (.int v73_2), some (.int 0)]) dX5_readPart_90 rfl rfl rfl rfl ?_
            refine w_lo dX5_readPart_91 rfl rfl rfl rfl ?_
            refine w_ieq_t dX5_readPart_92 (t := 99) rfl (by have := zt_0; omega) ?_
            obtain ⟨m, hm, hI⟩ := hb
            exact (ih m hm).2.2 M v73_2 0 hJ (by omega) (by omega) (by have := zt_0; omega) (by have := zt_0; omega) hI
          · skip
            replace hb : zHd _ := hb.2 h2
            refine w_cne_f dX5_readPart_82 (t := 89) rfl (by have := zt_26; omega) ?_
            obtain ⟨m, hm, hI⟩ := hb
            exact (ih m hm).2.1 M v73_2 o73_3 hJ (by omega) (by omega) hI
        · skip
          replace hb : zHd _ := hb.2 h1
          refine w_ceq_t dX5_readPart_76 (t := 85) rfl (by have := zt_25; omega) ?_
          obtain ⟨m, hm, hI⟩ := hb
          exact (ih m hm).2.1 M v73_2 o73_3 hJ (by omega) (by omega) hI
      · intro M v85_2 o85_3 hJ v85_20 v85_21 hI
        have hb : zHd _ := hb85 n (zi M) v85_2.toInt (zi_fr hJ.2) v85_20 v85_21 hI
        refine w_ic dX5_readPart_85 zi_1 ?_
        refine w_gt dX5_readPart_86 (t := 90) rfl ?_
        refine w_lo (ml' := [some (.ref 2), some (.int 5), some (.int v85_2), some (.int 1)]) dX5_readPart_90 rfl rfl rfl rfl ?_
        refine w_lo dX5_readPart_91 rfl rfl rfl rfl ?_
        refine w_ieq_f dX5_readPart_92 (t := 99) rfl (by have := zt_1; omega) ?_
        refine w_lo dX5_readPart_95 rfl rfl rfl rfl ?_
        refine w_iv dX5_readPart_96 rfl rfl (As := []) rfl rfl hJ.1.1 zs_2 (Nat.le_of_ble_eq_true rfl) ?_
        obtain ⟨P5, hp6, hb⟩ := hb
        replace hb : zHd _ := hb
        refine ZV.imp (u_1289 hN hJ.1 hp6) ?_
        rintro _ ⟨M3, rfl, hJ4, hq7⟩
        replace hb : zHd _ := hb  (zi M3) (zi_fr hJ4.2) hq7
        have hJ9 := zJ_trans hJ hJ4 (zSub_cons (fun _ _ h h' hk => zIR_s (zIR_s (zIR_s (zIR_s (zIR_s (zIR_s (zIR_e (by omega) (by omega) hk))))))) zSub_nil)
        show ZW _ _ _ _ _ _ _ (99, [some (.ref 2), some (.int 5), some (.int v85_2), some (.int 1)], [], M3)
        obtain ⟨m, hm, hI⟩ := hb
        exact (ih m hm).2.2 M3 v85_2 1 hJ9 (by omega) (by omega) (by have := zt_1; omega) (by have := zt_1; omega) hI
      · intro M v99_2 v99_3 hJ v99_20 v99_21 v99_30 v99_31 hI
        have hb : zHd _ := hb99 n (zi M) v99_2.toInt v99_3.toInt (zi_fr hJ.2) v99_20 v99_21 v99_30 v99_31 hI
        refine w_lo dX5_readPart_99 rfl rfl rfl rfl ?_
        refine w_bi dX5_readPart_100 (c := 40) (by decide) ?_
        refine w_iv dX5_readPart_102 rfl rfl (As := [.int 40]) rfl rfl hJ.1.1 zs_2 (Nat.le_of_ble_eq_true rfl) ?_
        obtain ⟨P12, hp13, hb⟩ := hb
        replace hb : zHd _ := hb
        have hp13c : b_1299 (zi M) (40 : Int32).toInt P12 := by rw [zt_40]; exact hp13
        refine ZV.imp (u_1299 40 (by have := zt_40; omega) (by have := zt_40; omega) hN hJ.1 hp13c) ?_
        rintro _ ⟨x15, M10, rfl, h16, h17, hJ11, hq14⟩
        replace hb : zHd _ := hb x15.toInt h16 h17 (zi M10) (zi_fr hJ11.2) hq14
        have hJ19 := zJ_trans hJ hJ11 zSub_nil
        show ZW _ _ _ _ _ _ _ (105, [some (.ref 2), some (.int 5), some (.int v99_2), some (.int v99_3)], [.int x15], M10)
        rcases Int.decEq x15.toInt (0 : Int) with h20 | h20
        · skip
          replace hb : zHd _ := hb.1 h20
          refine w_ine_t dX5_readPart_105 (t := 114) rfl (by omega) ?_
          refine w_lo dX5_readPart_114 rfl rfl rfl rfl ?_
          refine w_bi dX5_readPart_115 (c := 8) (by decide) ?_
          refine w_clt_t dX5_readPart_117 (t := 126) rfl (by have := zt_5; have := zt_8; omega) ?_
          refine w_lo dX5_readPart_126 rfl rfl rfl rfl ?_
          refine w_iv dX5_readPart_127 rfl rfl (As := []) rfl rfl hJ19.1.1 zs_2 (Nat.le_of_ble_eq_true rfl) ?_
          obtain ⟨P23, hp24, hb⟩ := hb
          replace hb : zHd _ := hb
          refine ZV.imp (u_1289 hN hJ19.1 hp24) ?_
          rintro _ ⟨M21, rfl, hJ22, hq25⟩
          replace hb : zHd _ := hb  (zi M21) (zi_fr hJ22.2) hq25
          have hJ27 := zJ_trans hJ19 hJ22 (zSub_cons (fun _ _ h h' hk => zIR_s (zIR_s (zIR_s (zIR_s (zIR_s (zIR_s (zIR_e (by omega) (by omega) hk))))))) zSub_nil)
          show ZW _ _ _ _ _ _ _ (130, [some (.ref 2), some (.int 5), some (.int v99_2), some (.int v99_3)], [], M21)
          refine w_lo dX5_readPart_130 rfl rfl rfl rfl ?_
          refine w_lo dX5_readPart_131 rfl rfl rfl rfl ?_
          refine w_ic dX5_readPart_132 zi_1 ?_
          refine w_pu (st' := [.int 6, .ref 2]) dX5_readPart_133 rfl rfl ?_
          refine w_iv dX5_readPart_134 rfl rfl (As := [.int 6]) rfl rfl hJ27.1.1 zs_2 (Nat.le_of_ble_eq_true rfl) ?_
          obtain ⟨P30, hp31, hb⟩ := hb
          replace hb : zHd _ := hb
          refine ZV.imp (u_1297_c6 hN hJ27.1 hp31) ?_
          rintro _ ⟨x33, M28, rfl, h34, h35, hJ29, hq32⟩
          replace hb : zHd _ := hb x33.toInt h34 h35 (zi M28) (zi_fr hJ29.2) hq32
          have hJ37 := zJ_trans hJ27 hJ29 (zSub_cons (fun _ _ h h' hk => zIR_e (by omega) (by omega) hk) (zSub_cons (fun _ _ h h' hk => zIR_s (zIR_e (by omega) (by omega) hk)) (zSub_cons (fun _ _ h h' hk => zIR_s (zIR_s (zIR_e (by omega) (by omega) hk))) (zSub_cons (fun _ _ h h' hk => zIR_s (zIR_s (zIR_s (zIR_e (by omega) (by omega) hk)))) (zSub_cons (fun _ _ h h' hk => zIR_s (zIR_s (zIR_s (zIR_s (zIR_a (by omega) (by omega)))))) (zSub_cons (fun _ _ h h' hk => zIR_s (zIR_s (zIR_s (zIR_s (zIR_s (zIR_a (by omega) (by omega))))))) (zSub_cons (fun _ _ h h' hk => zIR_s (zIR_s (zIR_s (zIR_s (zIR_s (zIR_s (zIR_e (by omega) (by omega) hk))))))) zSub_nil)))))))
          show ZW _ _ _ _ _ _ _ (137, [some (.ref 2), some (.int 5), some (.int v99_2), some (.int v99_3)], [.int x33], M28)
          rcases Int.decEq x33.toInt (0 : Int) with h38 | h38
          · skip
            replace hb : zHd _ := hb.1 h38
            refine w_ine_t dX5_readPart_137 (t := 142) rfl (by omega) ?_
            refine w_lo dX5_readPart_142 rfl rfl rfl rfl ?_
            rcases Int.decEq v99_3.toInt (0 : Int) with h39 | h39
            · skip
              replace hb : zHd _ := hb.1 h39
              refine w_ieq_f dX5_readPart_143 (t := 200) rfl (by omega) ?_
              refine w_lo dX5_readPart_146 rfl rfl rfl rfl ?_
              refine w_bi dX5_readPart_147 (c := 44) (by decide) ?_
              refine w_iv dX5_readPart_149 rfl rfl (As := [.int 44]) rfl rfl hJ37.1.1 zs_2 (Nat.le_of_ble_eq_true rfl) ?_
              obtain ⟨P42, hp43, hb⟩ := hb
              replace hb : zHd _ := hb
              have hp43c : b_1299 (zi M28) (44 : Int32).toInt P42 := by rw [zt_44]; exact hp43
              refine ZV.imp (u_1299 44 (by have := zt_44; omega) (by have := zt_44; omega) hN hJ37.1 hp43c) ?_
              rintro _ ⟨x45, M40, rfl, h46, h47, hJ41, hq44⟩
              replace hb : zHd _ := hb x45.toInt h46 h47 (zi M40) (zi_fr hJ41.2) hq44
              have hJ49 := zJ_trans hJ37 hJ41 zSub_nil
              show ZW _ _ _ _ _ _ _ (152, [some (.ref 2), some (.int 5), some (.int v99_2), some (.int v99_3)], [.int x45], M40)
              rcases Int.decEq x45.toInt (0 : Int) with h50 | h50
              · skip
                replace hb : zHd _ := hb.1 h50
                refine w_ine_t dX5_readPart_152 (t := 161) rfl (by omega) ?_
                refine w_lo dX5_readPart_161 rfl rfl rfl rfl ?_
                refine w_iv dX5_readPart_162 rfl rfl (As := []) rfl rfl hJ49.1.1 zs_2 (Nat.le_of_ble_eq_true rfl) ?_
                obtain ⟨P53, hp54, hb⟩ := hb
                replace hb : zHd _ := hb
                refine ZV.imp (u_1289 hN hJ49.1 hp54) ?_
                rintro _ ⟨M51, rfl, hJ52, hq55⟩
                replace hb : zHd _ := hb  (zi M51) (zi_fr hJ52.2) hq55
                have hJ57 := zJ_trans hJ49 hJ52 (zSub_cons (fun _ _ h h' hk => zIR_s (zIR_s (zIR_s (zIR_s (zIR_s (zIR_s (zIR_e (by omega) (by omega) hk))))))) zSub_nil)
                show ZW _ _ _ _ _ _ _ (165, [some (.ref 2), some (.int 5), some (.int v99_2), some (.int v99_3)], [], M51)
                refine w_lo dX5_readPart_165 rfl rfl rfl rfl ?_
                refine w_lo dX5_readPart_166 rfl rfl rfl rfl ?_
                refine w_ic dX5_readPart_167 zi_1 ?_
                refine w_pu (st' := [.int 6, .ref 2]) dX5_readPart_168 rfl rfl ?_
                refine w_iv dX5_readPart_169 rfl rfl (As := [.int 6]) rfl rfl hJ57.1.1 zs_2 (Nat.le_of_ble_eq_true rfl) ?_
                obtain ⟨P60, hp61, hb⟩ := hb
                replace hb : zHd _ := hb
                refine ZV.imp (u_1297_c6 hN hJ57.1 hp61) ?_
                rintro _ ⟨x63, M58, rfl, h64, h65, hJ59, hq62⟩
                replace hb : zHd _ := hb x63.toInt h64 h65 (zi M58) (zi_fr hJ59.2) hq62
                have hJ67 := zJ_trans hJ57 hJ59 (zSub_cons (fun _ _ h h' hk => zIR_e (by omega) (by omega) hk) (zSub_cons (fun _ _ h h' hk => zIR_s (zIR_e (by omega) (by omega) hk)) (zSub_cons (fun _ _ h h' hk => zIR_s (zIR_s (zIR_e (by omega) (by omega) hk))) (zSub_cons (fun _ _ h h' hk => zIR_s (zIR_s (zIR_s (zIR_e (by omega) (by omega) hk)))) (zSub_cons (fun _ _ h h' hk => zIR_s (zIR_s (zIR_s (zIR_s (zIR_a (by omega) (by omega)))))) (zSub_cons (fun _ _ h h' hk => zIR_s (zIR_s (zIR_s (zIR_s (zIR_s (zIR_a (by omega) (by omega))))))) (zSub_cons (fun _ _ h h' hk => zIR_s (zIR_s (zIR_s (zIR_s (zIR_s (zIR_s (zIR_e (by omega) (by omega) hk))))))) zSub_nil)))))))
                show ZW _ _ _ _ _ _ _ (172, [some (.ref 2), some (.int 5), some (.int v99_2), some (.int v99_3)], [.int x63], M58)
                rcases Int.decEq x63.toInt (0 : Int) with h68 | h68
                · skip
                  replace hb : zHd _ := hb.1 h68
                  refine w_ine_t dX5_readPart_172 (t := 177) rfl (by omega) ?_
                  refine w_lo dX5_readPart_177 rfl rfl rfl rfl ?_
                  obtain ⟨b69, f70, h71⟩ := zd_2_8 hJ67.1
                  have h72 := zDm_b h71
                  refine w_gf dX5_readPart_178 rfl hJ67.1.1 zs_2 f70 ?_
                  replace hb : zHd _ := hb b69 (ziR f70) (zDm_or h71)
                  refine w_gf dX5_readPart_181 rfl hJ67.1.1 (zs_1_0 h71) (zr_1_0_15 h71 hJ67.1) ?_
                  refine w_lo dX5_readPart_184 rfl rfl rfl rfl ?_
                  refine w_bi dX5_readPart_185 (c := 25) (by decide) ?_
                  rcases Int.decEq v99_2.toInt (25 : Int) with h73 | h73
                  · skip
                    replace hb : zHd _ := hb.1 h73
                    refine w_cne_t dX5_readPart_187 (t := 195) rfl (by have := zt_25; omega) ?_
                    refine w_bi dX5_readPart_195 (c := (-20)) (by decide) ?_
                    refine w_iv dX5_readPart_197 rfl rfl (As := [.int (-20)]) rfl rfl hJ67.1.1 (zs_1_13 h71) (Nat.le_of_ble_eq_true rfl) ?_
                    obtain ⟨P76, hp77, hb⟩ := hb
                    replace hb : zHd _ := hb
                    have hp77c : b_515 (b69 + 13) (zi M58) ((-20) : Int32).toInt P76 := by rw [zt_m20]; exact hp77
                    refine ZV.imp (u_515 (b69 + 13) (zLw_of h71) (-20) hN hJ67.1 hp77c) ?_
                    rintro _ ⟨M74, rfl, hJ75, hq78⟩
                    replace hb : zHd _ := hb  (zi M74) (zi_fr hJ75.2) hq78
                    have hJ80 := zJ_trans hJ67 hJ75 (zSub_cons (fun _ _ h h' hk => ((zDm_or h71).elim (fun e => zIR_s (zIR_s (zIR_e (by omega) (by omega) hk))) (fun e => zIR_s (zIR_s (zIR_s (zIR_e (by omega) (by omega) hk)))))) (zSub_cons (fun _ _ h h' hk => ((zDm_or h71).elim (fun e => zIR_s (zIR_s (zIR_s (zIR_s (zIR_a (by omega) (by omega)))))) (fun e => zIR_s (zIR_s (zIR_s (zIR_s (zIR_s (zIR_a (by omega) (by omega))))))))) zSub_nil))
                    show ZW _ _ _ _ _ _ _ (200, [some (.ref 2), some (.int 5), some (.int v99_2), some (.int v99_3)], [], M74)
                    refine w_lo dX5_readPart_200 rfl rfl rfl rfl ?_
                    refine w_bi dX5_readPart_201 (c := 41) (by decide) ?_
                    refine w_iv dX5_readPart_203 rfl rfl (As := [.int 41]) rfl rfl hJ80.1.1 zs_2 (Nat.le_of_ble_eq_true rfl) ?_
                    obtain ⟨P83, hp84, hb⟩ := hb
                    replace hb : zHd _ := hb
                    have hp84c : b_1299 (zi M74) (41 : Int32).toInt P83 := by rw [zt_41]; exact hp84
                    refine ZV.imp (u_1299 41 (by have := zt_41; omega) (by have := zt_41; omega) hN hJ80.1 hp84c) ?_
                    rintro _ ⟨x86, M81, rfl, h87, h88, hJ82, hq85⟩
                    replace hb : zHd _ := hb x86.toInt h87 h88 (zi M81) (zi_fr hJ82.2) hq85
                    have hJ90 := zJ_trans hJ80 hJ82 zSub_nil
                    show ZW _ _ _ _ _ _ _ (206, [some (.ref 2), some (.int 5), some (.int v99_2), some (.int v99_3)], [.int x86], M81)
                    rcases Int.decEq x86.toInt (0 : Int) with h91 | h91
                    · skip
                      replace hb : zHd _ := hb.1 h91
                      refine w_ine_t dX5_readPart_206 (t := 215) rfl (by omega) ?_
                      refine w_lo dX5_readPart_215 rfl rfl rfl rfl ?_
                      refine w_iv dX5_readPart_216 rfl rfl (As := []) rfl rfl hJ90.1.1 zs_2 (Nat.le_of_ble_eq_true rfl) ?_
                      obtain ⟨P94, hp95, hb⟩ := hb
                      replace hb : zHd _ := hb
                      refine ZV.imp (u_1289 hN hJ90.1 hp95) ?_
                      rintro _ ⟨M92, rfl, hJ93, hq96⟩
                      replace hb : zHd _ := hb  (zi M92) (zi_fr hJ93.2) hq96
                      have hJ98 := zJ_trans hJ90 hJ93 (zSub_cons (fun _ _ h h' hk => zIR_s (zIR_s (zIR_s (zIR_s (zIR_s (zIR_s (zIR_e (by omega) (by omega) hk))))))) zSub_nil)
                      show ZW _ _ _ _ _ _ _ (219, [some (.ref 2), some (.int 5), some (.int v99_2), some (.int v99_3)], [], M92)
                      refine w_ic dX5_readPart_219 zi_1 ?_
                      refine w_en dX5_readPart_220 rfl ?_
                      exact ⟨_, _, rfl, (by have := zt_1; omega), (by have := zt_1; omega), hJ98, hb⟩
                    · skip
                      replace hb : zHd _ := hb.2 h91
                      refine w_ine_f dX5_readPart_206 (t := 215) rfl (by omega) ?_
                      refine w_lo dX5_readPart_209 rfl rfl rfl rfl ?_
                      refine w_ic dX5_readPart_210 zi_1 ?_
                      refine w_iv dX5_readPart_211 rfl rfl (As := [.int 1]) rfl rfl hJ90.1.1 zs_2 (Nat.le_of_ble_eq_true rfl) ?_
                      obtain ⟨P101, hp102, hb⟩ := hb
                      replace hb : zHd _ := hb
                      have hp102c : b_1286 (zi M81) (1 : Int32).toInt P101 := by rw [zt_1]; exact hp102
                      refine ZV.imp (u_1286 1 (by have := zt_1; omega) (by have := zt_1; omega) hN hJ90.1 hp102c) ?_
                      rintro _ ⟨x104, M99, rfl, h105, h106, hJ100, hq103⟩
                      replace hb : zHd _ := hb x104.toInt h105 h106 (zi M99) (zi_fr hJ100.2) hq103
                      have hJ108 := zJ_trans hJ90 hJ100 (zSub_cons (fun _ _ h h' hk => zIR_e (by omega) (by omega) hk) (zSub_cons (fun _ _ h h' hk => zIR_s (zIR_e (by omega) (by omega) hk)) zSub_nil))
                      show ZW _ _ _ _ _ _ _ (214, [some (.ref 2), some (.int 5), some (.int v99_2), some (.int v99_3)], [.int x104], M99)
                      refine w_eni dX5_readPart_214 rfl (znb (by omega) (by omega)) ?_
                      exact ⟨_, _, rfl, (by omega), (by omega), hJ108, hb⟩
                  · skip
                    replace hb : zHd _ := hb.2 h73
                    refine w_cne_f dX5_readPart_187 (t := 195) rfl (by have := zt_25; omega) ?_
                    refine w_bi dX5_readPart_190 (c := (-19)) (by decide) ?_
                    refine w_gt dX5_readPart_192 (t := 197) rfl ?_
                    refine w_iv dX5_readPart_197 rfl rfl (As := [.int (-19)]) rfl rfl hJ67.1.1 (zs_1_13 h71) (Nat.le_of_ble_eq_true rfl) ?_
                    obtain ⟨P111, hp112, hb⟩ := hb
                    replace hb : zHd _ := hb
                    have hp112c : b_515 (b69 + 13) (zi M58) ((-19) : Int32).toInt P111 := by rw [zt_m19]; exact hp112
                    refine ZV.imp (u_515 (b69 + 13) (zLw_of h71) (-19) hN hJ67.1 hp112c) ?_
                    rintro _ ⟨M109, rfl, hJ110, hq113⟩
                    replace hb : zHd _ := hb  (zi M109) (zi_fr hJ110.2) hq113
                    have hJ115 := zJ_trans hJ67 hJ110 (zSub_cons (fun _ _ h h' hk => ((zDm_or h71).elim (fun e => zIR_s (zIR_s (zIR_e (by omega) (by omega) hk))) (fun e => zIR_s (zIR_s (zIR_s (zIR_e (by omega) (by omega) hk)))))) (zSub_cons (fun _ _ h h' hk => ((zDm_or h71).elim (fun e => zIR_s (zIR_s (zIR_s (zIR_s (zIR_a (by omega) (by omega)))))) (fun e => zIR_s (zIR_s (zIR_s (zIR_s (zIR_s (zIR_a (by omega) (by omega))))))))) zSub_nil))
                    show ZW _ _ _ _ _ _ _ (200, [some (.ref 2), some (.int 5), some (.int v99_2), some (.int v99_3)], [], M109)
                    refine w_lo dX5_readPart_200 rfl rfl rfl rfl ?_
                    refine w_bi dX5_readPart_201 (c := 41) (by decide) ?_
                    refine w_iv dX5_readPart_203 rfl rfl (As := [.int 41]) rfl rfl hJ115.1.1 zs_2 (Nat.le_of_ble_eq_true rfl) ?_
                    obtain ⟨P118, hp119, hb⟩ := hb
                    replace hb : zHd _ := hb
                    have hp119c : b_1299 (zi M109) (41 : Int32).toInt P118 := by rw [zt_41]; exact hp119
                    refine ZV.imp (u_1299 41 (by have := zt_41; omega) (by have := zt_41; omega) hN hJ115.1 hp119c) ?_
                    rintro _ ⟨x121, M116, rfl, h122, h123, hJ117, hq120⟩
                    replace hb : zHd _ := hb x121.toInt h122 h123 (zi M116) (zi_fr hJ117.2) hq120
                    have hJ125 := zJ_trans hJ115 hJ117 zSub_nil
                    show ZW _ _ _ _ _ _ _ (206, [some (.ref 2), some (.int 5), some (.int v99_2), some (.int v99_3)], [.int x121], M116)
                    rcases Int.decEq x121.toInt (0 : Int) with h126 | h126
                    · skip
                      replace hb : zHd _ := hb.1 h126
                      refine w_ine_t dX5_readPart_206 (t := 215) rfl (by omega) ?_
                      refine w_lo dX5_readPart_215 rfl rfl rfl rfl ?_
                      refine w_iv dX5_readPart_216 rfl rfl (As := []) rfl rfl hJ125.1.1 zs_2 (Nat.le_of_ble_eq_true rfl) ?_
                      obtain ⟨P129, hp130, hb⟩ := hb
                      replace hb : zHd _ := hb
                      refine ZV.imp (u_1289 hN hJ125.1 hp130) ?_
                      rintro _ ⟨M127, rfl, hJ128, hq131⟩
                      replace hb : zHd _ := hb  (zi M127) (zi_fr hJ128.2) hq131
                      have hJ133 := zJ_trans hJ125 hJ128 (zSub_cons (fun _ _ h h' hk => zIR_s (zIR_s (zIR_s (zIR_s (zIR_s (zIR_s (zIR_e (by omega) (by omega) hk))))))) zSub_nil)
                      show ZW _ _ _ _ _ _ _ (219, [some (.ref 2), some (.int 5), some (.int v99_2), some (.int v99_3)], [], M127)
                      refine w_ic dX5_readPart_219 zi_1 ?_
                      refine w_en dX5_readPart_220 rfl ?_
                      exact ⟨_, _, rfl, (by have := zt_1; omega), (by have := zt_1; omega), hJ133, hb⟩
                    · skip
                      replace hb : zHd _ := hb.2 h126
                      refine w_ine_f dX5_readPart_206 (t := 215) rfl (by omega) ?_
                      refine w_lo dX5_readPart_209 rfl rfl rfl rfl ?_
                      refine w_ic dX5_readPart_210 zi_1 ?_
                      refine w_iv dX5_readPart_211 rfl rfl (As := [.int 1]) rfl rfl hJ125.1.1 zs_2 (Nat.le_of_ble_eq_true rfl) ?_
                      obtain ⟨P136, hp137, hb⟩ := hb
                      replace hb : zHd _ := hb
                      have hp137c : b_1286 (zi M116) (1 : Int32).toInt P136 := by rw [zt_1]; exact hp137
                      refine ZV.imp (u_1286 1 (by have := zt_1; omega) (by have := zt_1; omega) hN hJ125.1 hp137c) ?_
                      rintro _ ⟨x139, M134, rfl, h140, h141, hJ135, hq138⟩
                      replace hb : zHd _ := hb x139.toInt h140 h141 (zi M134) (zi_fr hJ135.2) hq138
                      have hJ143 := zJ_trans hJ125 hJ135 (zSub_cons (fun _ _ h h' hk => zIR_e (by omega) (by omega) hk) (zSub_cons (fun _ _ h h' hk => zIR_s (zIR_e (by omega) (by omega) hk)) zSub_nil))
                      show ZW _ _ _ _ _ _ _ (214, [some (.ref 2), some (.int 5), some (.int v99_2), some (.int v99_3)], [.int x139], M134)
                      refine w_eni dX5_readPart_214 rfl (znb (by omega) (by omega)) ?_
                      exact ⟨_, _, rfl, (by omega), (by omega), hJ143, hb⟩
                · skip
                  replace hb : zHd _ := hb.2 h68
                  refine w_ine_f dX5_readPart_172 (t := 177) rfl (by omega) ?_
                  refine w_ic dX5_readPart_175 zi_0 ?_
                  refine w_en dX5_readPart_176 rfl ?_
                  exact ⟨_, _, rfl, (by have := zt_0; omega), (by have := zt_0; omega), hJ67, hb⟩
              · skip
                replace hb : zHd _ := hb.2 h50
                refine w_ine_f dX5_readPart_152 (t := 161) rfl (by omega) ?_
                refine w_lo dX5_readPart_155 rfl rfl rfl rfl ?_
                refine w_ic dX5_readPart_156 zi_1 ?_
                refine w_iv dX5_readPart_157 rfl rfl (As := [.int 1]) rfl rfl hJ49.1.1 zs_2 (Nat.le_of_ble_eq_true rfl) ?_
                obtain ⟨P146, hp147, hb⟩ := hb
                replace hb : zHd _ := hb
                have hp147c : b_1286 (zi M40) (1 : Int32).toInt P146 := by rw [zt_1]; exact hp147
                refine ZV.imp (u_1286 1 (by have := zt_1; omega) (by have := zt_1; omega) hN hJ49.1 hp147c) ?_
                rintro _ ⟨x149, M144, rfl, h150, h151, hJ145, hq148⟩
                replace hb : zHd _ := hb x149.toInt h150 h151 (zi M144) (zi_fr hJ145.2) hq148
                have hJ153 := zJ_trans hJ49 hJ145 (zSub_cons (fun _ _ h h' hk => zIR_e (by omega) (by omega) hk) (zSub_cons (fun _ _ h h' hk => zIR_s (zIR_e (by omega) (by omega) hk)) zSub_nil))
                show ZW _ _ _ _ _ _ _ (160, [some (.ref 2), some (.int 5), some (.int v99_2), some (.int v99_3)], [.int x149], M144)
                refine w_eni dX5_readPart_160 rfl (znb (by omega) (by omega)) ?_
                exact ⟨_, _, rfl, (by omega), (by omega), hJ153, hb⟩
            · skip
              replace hb : zHd _ := hb.2 h39
              refine w_ieq_t dX5_readPart_143 (t := 200) rfl (by omega) ?_
              refine w_lo dX5_readPart_200 rfl rfl rfl rfl ?_
              refine w_bi dX5_readPart_201 (c := 41) (by decide) ?_
              refine w_iv dX5_readPart_203 rfl rfl (As := [.int 41]) rfl rfl hJ37.1.1 zs_2 (Nat.le_of_ble_eq_true rfl) ?_
              obtain ⟨P156, hp157, hb⟩ := hb
              replace hb : zHd _ := hb
              have hp157c : b_1299 (zi M28) (41 : Int32).toInt P156 := by rw [zt_41]; exact hp157
              refine ZV.imp (u_1299 41 (by have := zt_41; omega) (by have := zt_41; omega) hN hJ37.1 hp157c) ?_
              rintro _ ⟨x159, M154, rfl, h160, h161, hJ155, hq158⟩
              replace hb : zHd _ := hb x159.toInt h160 h161 (zi M154) (zi_fr hJ155.2) hq158
              have hJ163 := zJ_trans hJ37 hJ155 zSub_nil
              show ZW _ _ _ _ _ _ _ (206, [some (.ref 2), some (.int 5), some (.int v99_2), some (.int v99_3)], [.int x159], M154)
              rcases Int.decEq x159.toInt (0 : Int) with h164 | h164
              · skip
                replace hb : zHd _ := hb.1 h164
                refine w_ine_t dX5_readPart_206 (t := 215) rfl (by omega) ?_
                refine w_lo dX5_readPart_215 rfl rfl rfl rfl ?_
                refine w_iv dX5_readPart_216 rfl rfl (As := []) rfl rfl hJ163.1.1 zs_2 (Nat.le_of_ble_eq_true rfl) ?_
                obtain ⟨P167, hp168, hb⟩ := hb
                replace hb : zHd _ := hb
                refine ZV.imp (u_1289 hN hJ163.1 hp168) ?_
                rintro _ ⟨M165, rfl, hJ166, hq169⟩
                replace hb : zHd _ := hb  (zi M165) (zi_fr hJ166.2) hq169
                have hJ171 := zJ_trans hJ163 hJ166 (zSub_cons (fun _ _ h h' hk => zIR_s (zIR_s (zIR_s (zIR_s (zIR_s (zIR_s (zIR_e (by omega) (by omega) hk))))))) zSub_nil)
                show ZW _ _ _ _ _ _ _ (219, [some (.ref 2), some (.int 5), some (.int v99_2), some (.int v99_3)], [], M165)
                refine w_ic dX5_readPart_219 zi_1 ?_
                refine w_en dX5_readPart_220 rfl ?_
                exact ⟨_, _, rfl, (by have := zt_1; omega), (by have := zt_1; omega), hJ171, hb⟩
              · skip
                replace hb : zHd _ := hb.2 h164
                refine w_ine_f dX5_readPart_206 (t := 215) rfl (by omega) ?_
                refine w_lo dX5_readPart_209 rfl rfl rfl rfl ?_
                refine w_ic dX5_readPart_210 zi_1 ?_
                refine w_iv dX5_readPart_211 rfl rfl (As := [.int 1]) rfl rfl hJ163.1.1 zs_2 (Nat.le_of_ble_eq_true rfl) ?_
                obtain ⟨P174, hp175, hb⟩ := hb
                replace hb : zHd _ := hb
                have hp175c : b_1286 (zi M154) (1 : Int32).toInt P174 := by rw [zt_1]; exact hp175
                refine ZV.imp (u_1286 1 (by have := zt_1; omega) (by have := zt_1; omega) hN hJ163.1 hp175c) ?_
                rintro _ ⟨x177, M172, rfl, h178, h179, hJ173, hq176⟩
                replace hb : zHd _ := hb x177.toInt h178 h179 (zi M172) (zi_fr hJ173.2) hq176
                have hJ181 := zJ_trans hJ163 hJ173 (zSub_cons (fun _ _ h h' hk => zIR_e (by omega) (by omega) hk) (zSub_cons (fun _ _ h h' hk => zIR_s (zIR_e (by omega) (by omega) hk)) zSub_nil))
                show ZW _ _ _ _ _ _ _ (214, [some (.ref 2), some (.int 5), some (.int v99_2), some (.int v99_3)], [.int x177], M172)
                refine w_eni dX5_readPart_214 rfl (znb (by omega) (by omega)) ?_
                exact ⟨_, _, rfl, (by omega), (by omega), hJ181, hb⟩
          · skip
            replace hb : zHd _ := hb.2 h38
            refine w_ine_f dX5_readPart_137 (t := 142) rfl (by omega) ?_
            refine w_ic dX5_readPart_140 zi_0 ?_
            refine w_en dX5_readPart_141 rfl ?_
            exact ⟨_, _, rfl, (by have := zt_0; omega), (by have := zt_0; omega), hJ37, hb⟩
        · skip
          replace hb : zHd _ := hb.2 h20
          refine w_ine_f dX5_readPart_105 (t := 114) rfl (by omega) ?_
          refine w_lo dX5_readPart_108 rfl rfl rfl rfl ?_
          refine w_ic dX5_readPart_109 zi_1 ?_
          refine w_iv dX5_readPart_110 rfl rfl (As := [.int 1]) rfl rfl hJ19.1.1 zs_2 (Nat.le_of_ble_eq_true rfl) ?_
          obtain ⟨P184, hp185, hb⟩ := hb
          replace hb : zHd _ := hb
          have hp185c : b_1286 (zi M10) (1 : Int32).toInt P184 := by rw [zt_1]; exact hp185
          refine ZV.imp (u_1286 1 (by have := zt_1; omega) (by have := zt_1; omega) hN hJ19.1 hp185c) ?_
          rintro _ ⟨x187, M182, rfl, h188, h189, hJ183, hq186⟩
          replace hb : zHd _ := hb x187.toInt h188 h189 (zi M182) (zi_fr hJ183.2) hq186
          have hJ191 := zJ_trans hJ19 hJ183 (zSub_cons (fun _ _ h h' hk => zIR_e (by omega) (by omega) hk) (zSub_cons (fun _ _ h h' hk => zIR_s (zIR_e (by omega) (by omega) hk)) zSub_nil))
          show ZW _ _ _ _ _ _ _ (113, [some (.ref 2), some (.int 5), some (.int v99_2), some (.int v99_3)], [.int x187], M182)
          refine w_eni dX5_readPart_113 rfl (znb (by omega) (by omega)) ?_
          exact ⟨_, _, rfl, (by omega), (by omega), hJ191, hb⟩
  have hb : zHd _ := hbE
  show ZW _ _ _ _ _ _ _ (0, [some (.ref 2), some (.int 5), none, none], [], M0)
  refine w_lo dX5_readPart_0 rfl rfl rfl rfl ?_
  refine w_gf dX5_readPart_1 rfl hJ0.1.1 zs_2 (zr_2_3 hJ0.1) ?_
  refine w_lo dX5_readPart_4 rfl rfl rfl rfl ?_
  refine w_gfi dX5_readPart_5 rfl hJ0.1 zs_2 (Nat.le_of_ble_eq_true rfl) zo_2_7 ?_
  intro x192 f193 h194 h195
  replace hb : zHd _ := hb x192.toInt (ziE f193) h194 h195
  refine w_iai dX5_readPart_8 hJ0.1 zs_4 (by omega) (by omega) zu_4 ?_
  intro x199 f196 h197 h198
  replace hb : zHd _ := hb x199.toInt (ziEk f196 rfl) h197 h198
  refine w_ic dX5_readPart_9 zi_4 ?_
  rcases Int.decEq x199.toInt (4 : Int) with h200 | h200
  · skip
    replace hb : zHd _ := hb.1 h200
    refine w_cne_t dX5_readPart_10 (t := 38) rfl (by have := zt_4; omega) ?_
    refine w_lo dX5_readPart_38 rfl rfl rfl rfl ?_
    refine w_iv dX5_readPart_39 rfl rfl (As := []) rfl rfl hJ0.1.1 zs_2 (Nat.le_of_ble_eq_true rfl) ?_
    obtain ⟨P203, hp204, hb⟩ := hb
    replace hb : zHd _ := hb
    refine ZV.imp (u_1287 hN hJ0.1 hp204) ?_
    rintro _ ⟨x206, M201, rfl, h207, h208, hJ202, hq205⟩
    replace hb : zHd _ := hb x206.toInt h207 h208 (zi M201) (zi_fr hJ202.2) hq205
    have hJ210 := zJ_trans hJ0 hJ202 zSub_nil
    show ZW _ _ _ _ _ _ _ (42, [some (.ref 2), some (.int 5), none, none], [.int x206], M201)
    refine w_lo (ml' := [some (.ref 2), some (.int 5), some (.int x206), none]) dX5_readPart_42 rfl rfl rfl rfl ?_
    refine w_lo dX5_readPart_43 rfl rfl rfl rfl ?_
    refine w_ic dX5_readPart_44 zi_m1 ?_
    rcases Int.decEq x206.toInt (-1 : Int) with h211 | h211
    · skip
      replace hb : zHd _ := hb.1 h211
      refine w_ceq_f dX5_readPart_45 (t := 73) rfl (by have := zt_m1; omega) ?_
      refine w_lo dX5_readPart_48 rfl rfl rfl rfl ?_
      refine w_bi dX5_readPart_49 (c := 7) (by decide) ?_
      rcases zcut x206.toInt (7 : Int) with h212 | h212
      · skip
        replace hb : zHd _ := hb.1 h212
        refine w_cge_f dX5_readPart_51 (t := 73) rfl (by have := zt_7; omega) ?_
        refine w_lo dX5_readPart_54 rfl rfl rfl rfl ?_
        obtain ⟨b213, f214, h215⟩ := zd_2_8 hJ210.1
        have h216 := zDm_b h215
        refine w_gf dX5_readPart_55 rfl hJ210.1.1 zs_2 f214 ?_
        replace hb : zHd _ := hb b213 (ziR f214) (zDm_or h215)
        refine w_gf dX5_readPart_58 rfl hJ210.1.1 (zs_1_0 h215) (zr_1_0_15 h215 hJ210.1) ?_
        refine w_ic dX5_readPart_61 zi_m1 ?_
        refine w_lo dX5_readPart_62 rfl rfl rfl rfl ?_
        refine w_sub dX5_readPart_63 (by have := zt_m1; omega) ?_
        intro x217 h218
        have := zt_m1
        replace hb : zHd _ := hb x217.toInt (by have := zt_m1; omega)
        refine w_iv dX5_readPart_64 rfl rfl (As := [.int x217]) rfl rfl hJ210.1.1 (zs_1_13 h215) (Nat.le_of_ble_eq_true rfl) ?_
        obtain ⟨P221, hp222, hb⟩ := hb
        replace hb : zHd _ := hb
        refine ZV.imp (u_515 (b213 + 13) (zLw_of h215) x217 hN hJ210.1 hp222) ?_
        rintro _ ⟨M219, rfl, hJ220, hq223⟩
        replace hb : zHd _ := hb  (zi M219) (zi_fr hJ220.2) hq223
        have hJ225 := zJ_trans hJ210 hJ220 (zSub_cons (fun _ _ h h' hk => ((zDm_or h215).elim (fun e => zIR_s (zIR_s (zIR_e (by omega) (by omega) hk))) (fun e => zIR_s (zIR_s (zIR_s (zIR_e (by omega) (by omega) hk)))))) (zSub_cons (fun _ _ h h' hk => ((zDm_or h215).elim (fun e => zIR_s (zIR_s (zIR_s (zIR_s (zIR_a (by omega) (by omega)))))) (fun e => zIR_s (zIR_s (zIR_s (zIR_s (zIR_s (zIR_a (by omega) (by omega))))))))) zSub_nil))
        show ZW _ _ _ _ _ _ _ (67, [some (.ref 2), some (.int 5), some (.int x206), none], [], M219)
        refine w_lo dX5_readPart_67 rfl rfl rfl rfl ?_
        refine w_iv dX5_readPart_68 rfl rfl (As := []) rfl rfl hJ225.1.1 zs_2 (Nat.le_of_ble_eq_true rfl) ?_
        obtain ⟨P228, hp229, hb⟩ := hb
        replace hb : zHd _ := hb
        refine ZV.imp (u_1289 hN hJ225.1 hp229) ?_
        rintro _ ⟨M226, rfl, hJ227, hq230⟩
        replace hb : zHd _ := hb  (zi M226) (zi_fr hJ227.2) hq230
        have hJ232 := zJ_trans hJ225 hJ227 (zSub_cons (fun _ _ h h' hk => zIR_s (zIR_s (zIR_s (zIR_s (zIR_s (zIR_s (zIR_e (by omega) (by omega) hk))))))) zSub_nil)
        show ZW _ _ _ _ _ _ _ (71, [some (.ref 2), some (.int 5), some (.int x206), none], [], M226)
        refine w_ic dX5_readPart_71 zi_1 ?_
        refine w_en dX5_readPart_72 rfl ?_
        exact ⟨_, _, rfl, (by have := zt_1; omega), (by have := zt_1; omega), hJ232, hb⟩
      · skip
        replace hb : zHd _ := hb.2 h212
        refine w_cge_t dX5_readPart_51 (t := 73) rfl (by have := zt_7; omega) ?_
        obtain ⟨m, hI⟩ := hb
        exact (main m).1 M201 x206 none hJ210 (by omega) (by omega) hI
    · skip
      replace hb : zHd _ := hb.2 h211
      refine w_ceq_t dX5_readPart_45 (t := 73) rfl (by have := zt_m1; omega) ?_
      obtain ⟨m, hI⟩ := hb
      exact (main m).1 M201 x206 none hJ210 (by omega) (by omega) hI
  · skip
    replace hb : zHd _ := hb.2 h200
    refine w_cne_f dX5_readPart_10 (t := 38) rfl (by have := zt_4; omega) ?_
    refine w_lo dX5_readPart_13 rfl rfl rfl rfl ?_
    obtain ⟨b233, f234, h235⟩ := zd_2_8 hJ0.1
    have h236 := zDm_b h235
    refine w_gf dX5_readPart_14 rfl hJ0.1.1 zs_2 f234 ?_
    replace hb : zHd _ := hb b233 (ziR f234) (zDm_or h235)
    refine w_gf dX5_readPart_17 rfl hJ0.1.1 (zs_1_0 h235) (zr_1_0_15 h235 hJ0.1) ?_
    refine w_lo dX5_readPart_20 rfl rfl rfl rfl ?_
    refine w_gf dX5_readPart_21 rfl hJ0.1.1 zs_2 (zr_2_4 hJ0.1) ?_
    refine w_lo dX5_readPart_24 rfl rfl rfl rfl ?_
    refine w_gf dX5_readPart_25 rfl hJ0.1.1 zs_2 f193 ?_
    refine w_iai dX5_readPart_28 hJ0.1 zs_5 (by omega) (by omega) zu_5 ?_
    intro x240 f237 h238 h239
    replace hb : zHd _ := hb x240.toInt (ziEk f237 rfl)
    refine w_iv dX5_readPart_29 rfl rfl (As := [.int x240]) rfl rfl hJ0.1.1 (zs_1_13 h235) (Nat.le_of_ble_eq_true rfl) ?_
    obtain ⟨P243, hp244, hb⟩ := hb
    replace hb : zHd _ := hb
    refine ZV.imp (u_515 (b233 + 13) (zLw_of h235) x240 hN hJ0.1 hp244) ?_
    rintro _ ⟨M241, rfl, hJ242, hq245⟩
    replace hb : zHd _ := hb  (zi M241) (zi_fr hJ242.2) hq245
    have hJ247 := zJ_trans hJ0 hJ242 (zSub_cons (fun _ _ h h' hk => ((zDm_or h235).elim (fun e => zIR_s (zIR_s (zIR_e (by omega) (by omega) hk))) (fun e => zIR_s (zIR_s (zIR_s (zIR_e (by omega) (by omega) hk)))))) (zSub_cons (fun _ _ h h' hk => ((zDm_or h235).elim (fun e => zIR_s (zIR_s (zIR_s (zIR_s (zIR_a (by omega) (by omega)))))) (fun e => zIR_s (zIR_s (zIR_s (zIR_s (zIR_s (zIR_a (by omega) (by omega))))))))) zSub_nil))
    show ZW _ _ _ _ _ _ _ (32, [some (.ref 2), some (.int 5), none, none], [], M241)
    refine w_lo dX5_readPart_32 rfl rfl rfl rfl ?_
    refine w_iv dX5_readPart_33 rfl rfl (As := []) rfl rfl hJ247.1.1 zs_2 (Nat.le_of_ble_eq_true rfl) ?_
    obtain ⟨P250, hp251, hb⟩ := hb
    replace hb : zHd _ := hb
    refine ZV.imp (u_1289 hN hJ247.1 hp251) ?_
    rintro _ ⟨M248, rfl, hJ249, hq252⟩
    replace hb : zHd _ := hb  (zi M248) (zi_fr hJ249.2) hq252
    have hJ254 := zJ_trans hJ247 hJ249 (zSub_cons (fun _ _ h h' hk => zIR_s (zIR_s (zIR_s (zIR_s (zIR_s (zIR_s (zIR_e (by omega) (by omega) hk))))))) zSub_nil)
    show ZW _ _ _ _ _ _ _ (36, [some (.ref 2), some (.int 5), none, none], [], M248)
    refine w_ic dX5_readPart_36 zi_1 ?_
    refine w_en dX5_readPart_37 rfl ?_
    exact ⟨_, _, rfl, (by have := zt_1; omega), (by have := zt_1; omega), hJ254, hb⟩
set_option maxRecDepth 100000 in
theorem u_1297_c5 {X : List Int32} {d N : Nat} {M0 : zM}  (hN : N ≤ 600) (hB0 : zB N M0) {Q : Int → zF → Prop} (hb : b_1297_c5 (zi M0) Q) : ZV X (d + 9) 1297 [.ref 2, .int 5] M0 (zRI N [(2, 3, 0), (2, 3, 1), (20, 21, 1), (41, 42, 1), (21, 22, 1000), (42, 43, 1000), (2, 3, 7)] M0 (0) (1) (fun v M' => Q v.toInt (zi M'))) := by
  have hJ0 : zJ N [(2, 3, 0), (2, 3, 1), (20, 21, 1), (41, 42, 1), (21, 22, 1000), (42, 43, 1000), (2, 3, 7)] M0 M0 := zJ_refl hB0
  refine ZV.of (ini := false) rfl (Nat.le_of_ble_eq_true rfl) (by decide +kernel) ?_
  obtain ⟨I4, I17, I52, I95, I115, I130, hbE, hb4, hb17, hb52, hb95, hb115, hb130⟩ := hb
  replace hbE : zHd _ := hbE
  replace hb4 : zHd _ := hb4
  replace hb17 : zHd _ := hb17
  replace hb52 : zHd _ := hb52
  replace hb95 : zHd _ := hb95
  replace hb115 : zHd _ := hb115
  replace hb130 : zHd _ := hb130
  have main : ∀ n : Nat,
      (∀ (M : zM) (v4_2 : Int32) (v4_3 : Int32) (o4_4 : Option Value) (o4_5 : Option Value), zJ N [(2, 3, 0), (2, 3, 1), (20, 21, 1), (41, 42, 1), (21, 22, 1000), (42, 43, 1000), (2, 3, 7)] M0 M → ((-13 : Int) ≤ v4_2.toInt) → (v4_2.toInt ≤ 0) → ((0 : Int) ≤ v4_3.toInt) → (v4_3.toInt ≤ 1601) → I4 n (zi M) v4_2.toInt v4_3.toInt → ZW X (d + 8) 5 false (some .boolean) cX5_readSum (zRI N [(2, 3, 0), (2, 3, 1), (20, 21, 1), (41, 42, 1), (21, 22, 1000), (42, 43, 1000), (2, 3, 7)] M0 (0) (1) (fun v M' => Q v.toInt (zi M'))) (4, [some (.ref 2), some (.int 5), some (.int v4_2), some (.int v4_3), o4_4, o4_5], [], M)) ∧
      (∀ (M : zM) (v17_2 : Int32) (v17_3 : Int32) (v17_4 : Int32) (v17_5 : Int32), zJ N [(2, 3, 0), (2, 3, 1), (20, 21, 1), (41, 42, 1), (21, 22, 1000), (42, 43, 1000), (2, 3, 7)] M0 M → ((-2147483648 : Int) ≤ v17_2.toInt) → (v17_2.toInt ≤ 0) → ((0 : Int) ≤ v17_3.toInt) → (v17_3.toInt ≤ 1600) → ((-11 : Int) ≤ v17_4.toInt) → (v17_4.toInt ≤ 0) → ((0 : Int) ≤ v17_5.toInt) → (v17_5.toInt ≤ 1601) → I17 n (zi M) v17_2.toInt v17_3.toInt v17_4.toInt v17_5.toInt → ZW X (d + 8) 5 false (some .boolean) cX5_readSum (zRI N [(2, 3, 0), (2, 3, 1), (20, 21, 1), (41, 42, 1), (21, 22, 1000), (42, 43, 1000), (2, 3, 7)] M0 (0) (1) (fun v M' => Q v.toInt (zi M'))) (17, [some (.ref 2), some (.int 5), some (.int v17_2), some (.int v17_3), some (.int v17_4), some (.int v17_5)], [], M)) ∧
      (∀ (M : zM) (v52_2 : Int32) (v52_3 : Int32) (u52_4 : Int32) (v52_5 : Int32), zJ N [(2, 3, 0), (2, 3, 1), (20, 21, 1), (41, 42, 1), (21, 22, 1000), (42, 43, 1000), (2, 3, 7)] M0 M → ((-2147483648 : Int) ≤ v52_2.toInt) → (v52_2.toInt ≤ 0) → ((0 : Int) ≤ v52_3.toInt) → (v52_3.toInt ≤ 1600) → ((0 : Int) ≤ v52_5.toInt) → (v52_5.toInt ≤ 1600) → I52 n (zi M) v52_2.toInt v52_3.toInt v52_5.toInt → ZW X (d + 8) 5 false (some .boolean) cX5_readSum (zRI N [(2, 3, 0), (2, 3, 1), (20, 21, 1), (41, 42, 1), (21, 22, 1000), (42, 43, 1000), (2, 3, 7)] M0 (0) (1) (fun v M' => Q v.toInt (zi M'))) (52, [some (.ref 2), some (.int 5), some (.int v52_2), some (.int v52_3), some (.int u52_4), some (.int v52_5)], [], M)) ∧
      (∀ (M : zM) (v95_2 : Int32) (v95_3 : Int32) (u95_4 : Int32) (v95_5 : Int32) (s95_0 : Int32), zJ N [(2, 3, 0), (2, 3, 1), (20, 21, 1), (41, 42, 1), (21, 22, 1000), (42, 43, 1000), (2, 3, 7)] M0 M → ((-2147483648 : Int) ≤ v95_2.toInt) → (v95_2.toInt ≤ 0) → ((0 : Int) ≤ v95_3.toInt) → (v95_3.toInt ≤ 1600) → ((0 : Int) ≤ v95_5.toInt) → (v95_5.toInt ≤ 1600) → ((-11 : Int) ≤ s95_0.toInt) → (s95_0.toInt ≤ 0) → I95 n (zi M) v95_2.toInt v95_3.toInt v95_5.toInt s95_0.toInt → ZW X (d + 8) 5 false (some .boolean) cX5_readSum (zRI N [(2, 3, 0), (2, 3, 1), (20, 21, 1), (41, 42, 1), (21, 22, 1000), (42, 43, 1000), (2, 3, 7)] M0 (0) (1) (fun v M' => Q v.toInt (zi M'))) (95, [some (.ref 2), some (.int 5), some (.int v95_2), some (.int v95_3), some (.int u95_4), some (.int v95_5)], [.int s95_0], M)) ∧
      (∀ (M : zM) (v115_2 : Int32) (v115_3 : Int32) (u115_4 : Int32) (u115_5 : Int32), zJ N [(2, 3, 0), (2, 3, 1), (20, 21, 1), (41, 42, 1), (21, 22, 1000), (42, 43, 1000), (2, 3, 7)] M0 M → ((-2147483648 : Int) ≤ v115_2.toInt) → (v115_2.toInt ≤ 0) → ((0 : Int) ≤ v115_3.toInt) → (v115_3.toInt ≤ 1600) → I115 n (zi M) v115_2.toInt v115_3.toInt → ZW X (d + 8) 5 false (some .boolean) cX5_readSum (zRI N [(2, 3, 0), (2, 3, 1), (20, 21, 1), (41, 42, 1), (21, 22, 1000), (42, 43, 1000), (2, 3, 7)] M0 (0) (1) (fun v M' => Q v.toInt (zi M'))) (115, [some (.ref 2), some (.int 5), some (.int v115_2), some (.int v115_3), some (.int u115_4), some (.int u115_5)], [], M)) ∧
      (∀ (M : zM) (u130_2 : Int32) (v130_3 : Int32) (u130_4 : Int32) (u130_5 : Int32), zJ N [(2, 3, 0), (2, 3, 1), (20, 21, 1), (41, 42, 1), (21, 22, 1000), (42, 43, 1000), (2, 3, 7)] M0 M → ((0 : Int) ≤ v130_3.toInt) → (v130_3.toInt ≤ 1600) → I130 n (zi M) v130_3.toInt → ZW X (d + 8) 5 false (some .boolean) cX5_readSum (zRI N [(2, 3, 0), (2, 3, 1), (20, 21, 1), (41, 42, 1), (21, 22, 1000), (42, 43, 1000), (2, 3, 7)] M0 (0) (1) (fun v M' => Q v.toInt (zi M'))) (130, [some (.ref 2), some (.int 5), some (.int u130_2), some (.int v130_3), some (.int u130_4), some (.int u130_5)], [], M)) := by
    intro n
    induction n using Nat.strongRecOn with
    | _ n ih =>
      refine ⟨?_, ?_, ?_, ?_, ?_, ?_⟩
      · intro M v4_2 v4_3 o4_4 o4_5 hJ v4_20 v4_21 v4_30 v4_31 hI
        have hb : zHd _ := hb4 n (zi M) v4_2.toInt v4_3.toInt (zi_fr hJ.2) v4_20 v4_21 v4_30 v4_31 hI
        refine w_lo dX5_readSum_4 rfl rfl rfl rfl ?_
        refine w_si dX5_readSum_5 (c := 1600) (by decide) ?_
        rcases zcut (1600 : Int) v4_3.toInt with h1 | h1
        · skip
          replace hb : zHd _ := hb.1 h1
          refine w_cgt_t dX5_readSum_8 (t := 177) rfl (by have := zt_1600; omega) ?_
          refine w_ic dX5_readSum_177 zi_1 ?_
          refine w_en dX5_readSum_178 rfl ?_
          exact ⟨_, _, rfl, (by have := zt_1; omega), (by have := zt_1; omega), hJ, hb⟩
        · skip
          replace hb : zHd _ := hb.2 h1
          refine w_cgt_f dX5_readSum_8 (t := 177) rfl (by have := zt_1600; omega) ?_
          refine w_ic dX5_readSum_11 zi_0 ?_
          refine w_lo (ml' := [some (.ref 2), some (.int 5), some (.int v4_2), some (.int v4_3), some (.int 0), o4_5]) dX5_readSum_12 rfl rfl rfl rfl ?_
          refine w_ic dX5_readSum_14 zi_0 ?_
          refine w_lo (ml' := [some (.ref 2), some (.int 5), some (.int v4_2), some (.int v4_3), some (.int 0), some (.int 0)]) dX5_readSum_15 rfl rfl rfl rfl ?_
          obtain ⟨m, hm, hI⟩ := hb
          exact (ih m hm).2.1 M v4_2 v4_3 0 0 hJ (zbot _) (by omega) (by omega) (by omega) (by have := zt_0; omega) (by have := zt_0; omega) (by have := zt_0; omega) (by have := zt_0; omega) hI
      · intro M v17_2 v17_3 v17_4 v17_5 hJ v17_20 v17_21 v17_30 v17_31 v17_40 v17_41 v17_50 v17_51 hI
        have hb : zHd _ := hb17 n (zi M) v17_2.toInt v17_3.toInt v17_4.toInt v17_5.toInt (zi_fr hJ.2) v17_21 v17_30 v17_31 v17_40 v17_41 v17_50 v17_51 hI
        refine w_lo dX5_readSum_17 rfl rfl rfl rfl ?_
        refine w_si dX5_readSum_19 (c := 1600) (by decide) ?_
        rcases zcut (1600 : Int) v17_5.toInt with h2 | h2
        · skip
          replace hb : zHd _ := hb.1 h2
          refine w_cgt_t dX5_readSum_22 (t := 115) rfl (by have := zt_1600; omega) ?_
          obtain ⟨m, hm, hI⟩ := hb
          exact (ih m hm).2.2.2.2.1 M v17_2 v17_3 v17_4 v17_5 hJ (zbot _) (by omega) (by omega) (by omega) hI
        · skip
          replace hb : zHd _ := hb.2 h2
          refine w_cgt_f dX5_readSum_22 (t := 115) rfl (by have := zt_1600; omega) ?_
          refine w_lo dX5_readSum_25 rfl rfl rfl rfl ?_
          refine w_lo dX5_readSum_26 rfl rfl rfl rfl ?_
          refine w_iv dX5_readSum_27 rfl rfl (As := [.int 5]) rfl rfl hJ.1.1 zs_2 (Nat.le_of_ble_eq_true rfl) ?_
          obtain ⟨P5, hp6, hb⟩ := hb
          replace hb : zHd _ := hb
          refine ZV.imp (u_1298_c5 hN hJ.1 hp6) ?_
          rintro _ ⟨x8, M3, rfl, h9, h10, hJ4, hq7⟩
          replace hb : zHd _ := hb x8.toInt h9 h10 (zi M3) (zi_fr hJ4.2) hq7
          have hJ12 := zJ_trans hJ hJ4 (zSub_cons (fun _ _ h h' hk => zIR_e (by omega) (by omega) hk) (zSub_cons (fun _ _ h h' hk => zIR_s (zIR_e (by omega) (by omega) hk)) (zSub_cons (fun _ _ h h' hk => zIR_s (zIR_s (zIR_e (by omega) (by omega) hk))) (zSub_cons (fun _ _ h h' hk => zIR_s (zIR_s (zIR_s (zIR_e (by omega) (by omega) hk)))) (zSub_cons (fun _ _ h h' hk => zIR_s (zIR_s (zIR_s (zIR_s (zIR_a (by omega) (by omega)))))) (zSub_cons (fun _ _ h h' hk => zIR_s (zIR_s (zIR_s (zIR_s (zIR_s (zIR_a (by omega) (by omega))))))) (zSub_cons (fun _ _ h h' hk => zIR_s (zIR_s (zIR_s (zIR_s (zIR_s (zIR_s (zIR_e (by omega) (by omega) hk))))))) zSub_nil)))))))
          show ZW _ _ _ _ _ _ _ (30, [some (.ref 2), some (.int 5), some (.int v17_2), some (.int v17_3), some (.int v17_4), some (.int v17_5)], [.int x8], M3)
          rcases Int.decEq x8.toInt (0 : Int) with h13 | h13
          · skip
            replace hb : zHd _ := hb.1 h13
            refine w_ine_t dX5_readSum_30 (t := 35) rfl (by omega) ?_
            refine w_lo dX5_readSum_35 rfl rfl rfl rfl ?_
            rcases Int.decEq v17_4.toInt (0 : Int) with h14 | h14
            · skip
              replace hb : zHd _ := hb.1 h14
              refine w_ieq_f dX5_readSum_37 (t := 52) rfl (by omega) ?_
              refine w_lo dX5_readSum_40 rfl rfl rfl rfl ?_
              obtain ⟨b15, f16, h17⟩ := zd_2_8 hJ12.1
              have h18 := zDm_b h17
              refine w_gf dX5_readSum_41 rfl hJ12.1.1 zs_2 f16 ?_
              replace hb : zHd _ := hb b15 (ziR f16) (zDm_or h17)
              refine w_gf dX5_readSum_44 rfl hJ12.1.1 (zs_1_0 h17) (zr_1_0_15 h17 hJ12.1) ?_
              refine w_lo dX5_readSum_47 rfl rfl rfl rfl ?_
              refine w_iv dX5_readSum_49 rfl rfl (As := [.int v17_4]) rfl rfl hJ12.1.1 (zs_1_13 h17) (Nat.le_of_ble_eq_true rfl) ?_
              obtain ⟨P21, hp22, hb⟩ := hb
              replace hb : zHd _ := hb
              refine ZV.imp (u_515 (b15 + 13) (zLw_of h17) v17_4 hN hJ12.1 hp22) ?_
              rintro _ ⟨M19, rfl, hJ20, hq23⟩
              replace hb : zHd _ := hb  (zi M19) (zi_fr hJ20.2) hq23
              have hJ25 := zJ_trans hJ12 hJ20 (zSub_cons (fun _ _ h h' hk => ((zDm_or h17).elim (fun e => zIR_s (zIR_s (zIR_e (by omega) (by omega) hk))) (fun e => zIR_s (zIR_s (zIR_s (zIR_e (by omega) (by omega) hk)))))) (zSub_cons (fun _ _ h h' hk => ((zDm_or h17).elim (fun e => zIR_s (zIR_s (zIR_s (zIR_s (zIR_a (by omega) (by omega)))))) (fun e => zIR_s (zIR_s (zIR_s (zIR_s (zIR_s (zIR_a (by omega) (by omega))))))))) zSub_nil))
              show ZW _ _ _ _ _ _ _ (52, [some (.ref 2), some (.int 5), some (.int v17_2), some (.int v17_3), some (.int v17_4), some (.int v17_5)], [], M19)
              obtain ⟨m, hm, hI⟩ := hb
              exact (ih m hm).2.2.1 M19 v17_2 v17_3 v17_4 v17_5 hJ25 (zbot _) (by omega) (by omega) (by omega) (by omega) (by omega) hI
            · skip
              replace hb : zHd _ := hb.2 h14
              refine w_ieq_t dX5_readSum_37 (t := 52) rfl (by omega) ?_
              obtain ⟨m, hm, hI⟩ := hb
              exact (ih m hm).2.2.1 M3 v17_2 v17_3 v17_4 v17_5 hJ12 (zbot _) (by omega) (by omega) (by omega) (by omega) (by omega) hI
          · skip
            replace hb : zHd _ := hb.2 h13
            refine w_ine_f dX5_readSum_30 (t := 35) rfl (by omega) ?_
            refine w_ic dX5_readSum_33 zi_0 ?_
            refine w_en dX5_readSum_34 rfl ?_
            exact ⟨_, _, rfl, (by have := zt_0; omega), (by have := zt_0; omega), hJ12, hb⟩
      · intro M v52_2 v52_3 u52_4 v52_5 hJ v52_20 v52_21 v52_30 v52_31 v52_50 v52_51 hI
        have hb : zHd _ := hb52 n (zi M) v52_2.toInt v52_3.toInt v52_5.toInt (zi_fr hJ.2) v52_21 v52_30 v52_31 v52_50 v52_51 hI
        refine w_lo dX5_readSum_52 rfl rfl rfl rfl ?_
        refine w_bi dX5_readSum_53 (c := 42) (by decide) ?_
        refine w_iv dX5_readSum_55 rfl rfl (As := [.int 42]) rfl rfl hJ.1.1 zs_2 (Nat.le_of_ble_eq_true rfl) ?_
        obtain ⟨P28, hp29, hb⟩ := hb
        replace hb : zHd _ := hb
        have hp29c : b_1299 (zi M) (42 : Int32).toInt P28 := by rw [zt_42]; exact hp29
        refine ZV.imp (u_1299 42 (by have := zt_42; omega) (by have := zt_42; omega) hN hJ.1 hp29c) ?_
        rintro _ ⟨x31, M26, rfl, h32, h33, hJ27, hq30⟩
        replace hb : zHd _ := hb x31.toInt h32 h33 (zi M26) (zi_fr hJ27.2) hq30
        have hJ35 := zJ_trans hJ hJ27 zSub_nil
        show ZW _ _ _ _ _ _ _ (58, [some (.ref 2), some (.int 5), some (.int v52_2), some (.int v52_3), some (.int u52_4), some (.int v52_5)], [.int x31], M26)
        rcases Int.decEq x31.toInt (0 : Int) with h36 | h36
        · skip
          replace hb : zHd _ := hb.1 h36
          refine w_ieq_f dX5_readSum_58 (t := 66) rfl (by omega) ?_
          refine w_bi dX5_readSum_61 (c := (-9)) (by decide) ?_
          refine w_gt dX5_readSum_63 (t := 95) rfl ?_
          obtain ⟨m, hm, hI⟩ := hb
          exact (ih m hm).2.2.2.1 M26 v52_2 v52_3 u52_4 v52_5 (-9) hJ35 (zbot _) (by omega) (by omega) (by omega) (by omega) (by omega) (by have := zt_m9; omega) (by have := zt_m9; omega) hI
        · skip
          replace hb : zHd _ := hb.2 h36
          refine w_ieq_t dX5_readSum_58 (t := 66) rfl (by omega) ?_
          refine w_lo dX5_readSum_66 rfl rfl rfl rfl ?_
          refine w_bi dX5_readSum_67 (c := 47) (by decide) ?_
          refine w_iv dX5_readSum_69 rfl rfl (As := [.int 47]) rfl rfl hJ35.1.1 zs_2 (Nat.le_of_ble_eq_true rfl) ?_
          obtain ⟨P39, hp40, hb⟩ := hb
          replace hb : zHd _ := hb
          have hp40c : b_1299 (zi M26) (47 : Int32).toInt P39 := by rw [zt_47]; exact hp40
          refine ZV.imp (u_1299 47 (by have := zt_47; omega) (by have := zt_47; omega) hN hJ35.1 hp40c) ?_
          rintro _ ⟨x42, M37, rfl, h43, h44, hJ38, hq41⟩
          replace hb : zHd _ := hb x42.toInt h43 h44 (zi M37) (zi_fr hJ38.2) hq41
          have hJ46 := zJ_trans hJ35 hJ38 zSub_nil
          show ZW _ _ _ _ _ _ _ (72, [some (.ref 2), some (.int 5), some (.int v52_2), some (.int v52_3), some (.int u52_4), some (.int v52_5)], [.int x42], M37)
          rcases Int.decEq x42.toInt (0 : Int) with h47 | h47
          · skip
            replace hb : zHd _ := hb.1 h47
            refine w_ieq_f dX5_readSum_72 (t := 80) rfl (by omega) ?_
            refine w_bi dX5_readSum_75 (c := (-10)) (by decide) ?_
            refine w_gt dX5_readSum_77 (t := 95) rfl ?_
            obtain ⟨m, hm, hI⟩ := hb
            exact (ih m hm).2.2.2.1 M37 v52_2 v52_3 u52_4 v52_5 (-10) hJ46 (zbot _) (by omega) (by omega) (by omega) (by omega) (by omega) (by have := zt_m10; omega) (by have := zt_m10; omega) hI
          · skip
            replace hb : zHd _ := hb.2 h47
            refine w_ieq_t dX5_readSum_72 (t := 80) rfl (by omega) ?_
            refine w_lo dX5_readSum_80 rfl rfl rfl rfl ?_
            refine w_bi dX5_readSum_81 (c := 37) (by decide) ?_
            refine w_iv dX5_readSum_83 rfl rfl (As := [.int 37]) rfl rfl hJ46.1.1 zs_2 (Nat.le_of_ble_eq_true rfl) ?_
            obtain ⟨P50, hp51, hb⟩ := hb
            replace hb : zHd _ := hb
            have hp51c : b_1299 (zi M37) (37 : Int32).toInt P50 := by rw [zt_37]; exact hp51
            refine ZV.imp (u_1299 37 (by have := zt_37; omega) (by have := zt_37; omega) hN hJ46.1 hp51c) ?_
            rintro _ ⟨x53, M48, rfl, h54, h55, hJ49, hq52⟩
            replace hb : zHd _ := hb x53.toInt h54 h55 (zi M48) (zi_fr hJ49.2) hq52
            have hJ57 := zJ_trans hJ46 hJ49 zSub_nil
            show ZW _ _ _ _ _ _ _ (86, [some (.ref 2), some (.int 5), some (.int v52_2), some (.int v52_3), some (.int u52_4), some (.int v52_5)], [.int x53], M48)
            rcases Int.decEq x53.toInt (0 : Int) with h58 | h58
            · skip
              replace hb : zHd _ := hb.1 h58
              refine w_ieq_f dX5_readSum_86 (t := 94) rfl (by omega) ?_
              refine w_bi dX5_readSum_89 (c := (-11)) (by decide) ?_
              refine w_gt dX5_readSum_91 (t := 95) rfl ?_
              obtain ⟨m, hm, hI⟩ := hb
              exact (ih m hm).2.2.2.1 M48 v52_2 v52_3 u52_4 v52_5 (-11) hJ57 (zbot _) (by omega) (by omega) (by omega) (by omega) (by omega) (by have := zt_m11; omega) (by have := zt_m11; omega) hI
            · skip
              replace hb : zHd _ := hb.2 h58
              refine w_ieq_t dX5_readSum_86 (t := 94) rfl (by omega) ?_
              refine w_ic dX5_readSum_94 zi_0 ?_
              obtain ⟨m, hm, hI⟩ := hb
              exact (ih m hm).2.2.2.1 M48 v52_2 v52_3 u52_4 v52_5 0 hJ57 (zbot _) (by omega) (by omega) (by omega) (by omega) (by omega) (by have := zt_0; omega) (by have := zt_0; omega) hI
      · intro M v95_2 v95_3 u95_4 v95_5 s95_0 hJ v95_20 v95_21 v95_30 v95_31 v95_50 v95_51 s95_00 s95_01 hI
        have hb : zHd _ := hb95 n (zi M) v95_2.toInt v95_3.toInt v95_5.toInt s95_0.toInt (zi_fr hJ.2) v95_21 v95_30 v95_31 v95_50 v95_51 s95_00 s95_01 hI
        refine w_lo (ml' := [some (.ref 2), some (.int 5), some (.int v95_2), some (.int v95_3), some (.int s95_0), some (.int v95_5)]) dX5_readSum_95 rfl rfl rfl rfl ?_
        refine w_lo dX5_readSum_97 rfl rfl rfl rfl ?_
        rcases Int.decEq s95_0.toInt (0 : Int) with h59 | h59
        · skip
          replace hb : zHd _ := hb.1 h59
          refine w_ine_t dX5_readSum_99 (t := 105) rfl (by omega) ?_
          refine w_lo dX5_readSum_105 rfl rfl rfl rfl ?_
          refine w_iv dX5_readSum_106 rfl rfl (As := []) rfl rfl hJ.1.1 zs_2 (Nat.le_of_ble_eq_true rfl) ?_
          obtain ⟨P62, hp63, hb⟩ := hb
          replace hb : zHd _ := hb
          refine ZV.imp (u_1289 hN hJ.1 hp63) ?_
          rintro _ ⟨M60, rfl, hJ61, hq64⟩
          replace hb : zHd _ := hb  (zi M60) (zi_fr hJ61.2) hq64
          have hJ66 := zJ_trans hJ hJ61 (zSub_cons (fun _ _ h h' hk => zIR_s (zIR_s (zIR_s (zIR_s (zIR_s (zIR_s (zIR_e (by omega) (by omega) hk))))))) zSub_nil)
          show ZW _ _ _ _ _ _ _ (109, [some (.ref 2), some (.int 5), some (.int v95_2), some (.int v95_3), some (.int s95_0), some (.int v95_5)], [], M60)
          refine w_inc (kk := 5) dX5_readSum_109 rfl (m := 1) (by decide) (by omega) ?_
          intro x67 h68
          refine ⟨_, rfl, ?_⟩
          replace hb : zHd _ := hb x67.toInt h68
          show ZW _ _ _ _ _ _ _ (112, [some (.ref 2), some (.int 5), some (.int v95_2), some (.int v95_3), some (.int s95_0), some (.int x67)], [], M60)
          refine w_gt dX5_readSum_112 (t := 17) rfl ?_
          obtain ⟨m, hm, hI⟩ := hb
          exact (ih m hm).2.1 M60 v95_2 v95_3 s95_0 x67 hJ66 (zbot _) (by omega) (by omega) (by omega) (by omega) (by omega) (by omega) (by omega) hI
        · skip
          replace hb : zHd _ := hb.2 h59
          refine w_ine_f dX5_readSum_99 (t := 105) rfl (by omega) ?_
          refine w_gt dX5_readSum_102 (t := 115) rfl ?_
          obtain ⟨m, hm, hI⟩ := hb
          exact (ih m hm).2.2.2.2.1 M v95_2 v95_3 s95_0 v95_5 hJ (zbot _) (by omega) (by omega) (by omega) hI
      · intro M v115_2 v115_3 u115_4 u115_5 hJ v115_20 v115_21 v115_30 v115_31 hI
        have hb : zHd _ := hb115 n (zi M) v115_2.toInt v115_3.toInt (zi_fr hJ.2) v115_21 v115_30 v115_31 hI
        refine w_lo dX5_readSum_115 rfl rfl rfl rfl ?_
        rcases Int.decEq v115_2.toInt (0 : Int) with h69 | h69
        · skip
          replace hb : zHd _ := hb.1 h69
          refine w_ieq_f dX5_readSum_116 (t := 130) rfl (by omega) ?_
          refine w_lo dX5_readSum_119 rfl rfl rfl rfl ?_
          obtain ⟨b70, f71, h72⟩ := zd_2_8 hJ.1
          have h73 := zDm_b h72
          refine w_gf dX5_readSum_120 rfl hJ.1.1 zs_2 f71 ?_
          replace hb : zHd _ := hb b70 (ziR f71) (zDm_or h72)
          refine w_gf dX5_readSum_123 rfl hJ.1.1 (zs_1_0 h72) (zr_1_0_15 h72 hJ.1) ?_
          refine w_lo dX5_readSum_126 rfl rfl rfl rfl ?_
          refine w_iv dX5_readSum_127 rfl rfl (As := [.int v115_2]) rfl rfl hJ.1.1 (zs_1_13 h72) (Nat.le_of_ble_eq_true rfl) ?_
          obtain ⟨P76, hp77, hb⟩ := hb
          replace hb : zHd _ := hb
          refine ZV.imp (u_515 (b70 + 13) (zLw_of h72) v115_2 hN hJ.1 hp77) ?_
          rintro _ ⟨M74, rfl, hJ75, hq78⟩
          replace hb : zHd _ := hb  (zi M74) (zi_fr hJ75.2) hq78
          have hJ80 := zJ_trans hJ hJ75 (zSub_cons (fun _ _ h h' hk => ((zDm_or h72).elim (fun e => zIR_s (zIR_s (zIR_e (by omega) (by omega) hk))) (fun e => zIR_s (zIR_s (zIR_s (zIR_e (by omega) (by omega) hk)))))) (zSub_cons (fun _ _ h h' hk => ((zDm_or h72).elim (fun e => zIR_s (zIR_s (zIR_s (zIR_s (zIR_a (by omega) (by omega)))))) (fun e => zIR_s (zIR_s (zIR_s (zIR_s (zIR_s (zIR_a (by omega) (by omega))))))))) zSub_nil))
          show ZW _ _ _ _ _ _ _ (130, [some (.ref 2), some (.int 5), some (.int v115_2), some (.int v115_3), some (.int u115_4), some (.int u115_5)], [], M74)
          obtain ⟨m, hm, hI⟩ := hb
          exact (ih m hm).2.2.2.2.2 M74 v115_2 v115_3 u115_4 u115_5 hJ80 (by omega) (by omega) hI
        · skip
          replace hb : zHd _ := hb.2 h69
          refine w_ieq_t dX5_readSum_116 (t := 130) rfl (by omega) ?_
          obtain ⟨m, hm, hI⟩ := hb
          exact (ih m hm).2.2.2.2.2 M v115_2 v115_3 u115_4 u115_5 hJ (by omega) (by omega) hI
      · intro M u130_2 v130_3 u130_4 u130_5 hJ v130_30 v130_31 hI
        have hb : zHd _ := hb130 n (zi M) v130_3.toInt (zi_fr hJ.2) v130_30 v130_31 hI
        refine w_lo dX5_readSum_130 rfl rfl rfl rfl ?_
        refine w_bi dX5_readSum_131 (c := 43) (by decide) ?_
        refine w_iv dX5_readSum_133 rfl rfl (As := [.int 43]) rfl rfl hJ.1.1 zs_2 (Nat.le_of_ble_eq_true rfl) ?_
        obtain ⟨P83, hp84, hb⟩ := hb
        replace hb : zHd _ := hb
        have hp84c : b_1299 (zi M) (43 : Int32).toInt P83 := by rw [zt_43]; exact hp84
        refine ZV.imp (u_1299 43 (by have := zt_43; omega) (by have := zt_43; omega) hN hJ.1 hp84c) ?_
        rintro _ ⟨x86, M81, rfl, h87, h88, hJ82, hq85⟩
        replace hb : zHd _ := hb x86.toInt h87 h88 (zi M81) (zi_fr hJ82.2) hq85
        have hJ90 := zJ_trans hJ hJ82 zSub_nil
        show ZW _ _ _ _ _ _ _ (136, [some (.ref 2), some (.int 5), some (.int u130_2), some (.int v130_3), some (.int u130_4), some (.int u130_5)], [.int x86], M81)
        rcases Int.decEq x86.toInt (0 : Int) with h91 | h91
        · skip
          replace hb : zHd _ := hb.1 h91
          refine w_ieq_f dX5_readSum_136 (t := 144) rfl (by omega) ?_
          refine w_bi dX5_readSum_139 (c := (-12)) (by decide) ?_
          refine w_gt dX5_readSum_141 (t := 159) rfl ?_
          refine w_lo (ml' := [some (.ref 2), some (.int 5), some (.int (-12)), some (.int v130_3), some (.int u130_4), some (.int u130_5)]) dX5_readSum_159 rfl rfl rfl rfl ?_
          refine w_lo dX5_readSum_160 rfl rfl rfl rfl ?_
          refine w_ine_t dX5_readSum_161 (t := 167) rfl (by have := zt_m12; omega) ?_
          refine w_lo dX5_readSum_167 rfl rfl rfl rfl ?_
          refine w_iv dX5_readSum_168 rfl rfl (As := []) rfl rfl hJ90.1.1 zs_2 (Nat.le_of_ble_eq_true rfl) ?_
          obtain ⟨P94, hp95, hb⟩ := hb
          replace hb : zHd _ := hb
          refine ZV.imp (u_1289 hN hJ90.1 hp95) ?_
          rintro _ ⟨M92, rfl, hJ93, hq96⟩
          replace hb : zHd _ := hb  (zi M92) (zi_fr hJ93.2) hq96
          have hJ98 := zJ_trans hJ90 hJ93 (zSub_cons (fun _ _ h h' hk => zIR_s (zIR_s (zIR_s (zIR_s (zIR_s (zIR_s (zIR_e (by omega) (by omega) hk))))))) zSub_nil)
          show ZW _ _ _ _ _ _ _ (171, [some (.ref 2), some (.int 5), some (.int (-12)), some (.int v130_3), some (.int u130_4), some (.int u130_5)], [], M92)
          refine w_inc (kk := 3) dX5_readSum_171 rfl (m := 1) (by decide) (by omega) ?_
          intro x99 h100
          refine ⟨_, rfl, ?_⟩
          replace hb : zHd _ := hb x99.toInt h100
          show ZW _ _ _ _ _ _ _ (174, [some (.ref 2), some (.int 5), some (.int (-12)), some (.int x99), some (.int u130_4), some (.int u130_5)], [], M92)
          refine w_gt dX5_readSum_174 (t := 4) rfl ?_
          obtain ⟨m, hm, hI⟩ := hb
          exact (ih m hm).1 M92 (-12) x99 (some (.int u130_4)) (some (.int u130_5)) hJ98 (by have := zt_m12; omega) (by have := zt_m12; omega) (by omega) (by omega) hI
        · skip
          replace hb : zHd _ := hb.2 h91
          refine w_ieq_t dX5_readSum_136 (t := 144) rfl (by omega) ?_
          refine w_lo dX5_readSum_144 rfl rfl rfl rfl ?_
          refine w_bi dX5_readSum_145 (c := 45) (by decide) ?_
          refine w_iv dX5_readSum_147 rfl rfl (As := [.int 45]) rfl rfl hJ90.1.1 zs_2 (Nat.le_of_ble_eq_true rfl) ?_
          obtain ⟨P103, hp104, hb⟩ := hb
          replace hb : zHd _ := hb
          have hp104c : b_1299 (zi M81) (45 : Int32).toInt P103 := by rw [zt_45]; exact hp104
          refine ZV.imp (u_1299 45 (by have := zt_45; omega) (by have := zt_45; omega) hN hJ90.1 hp104c) ?_
          rintro _ ⟨x106, M101, rfl, h107, h108, hJ102, hq105⟩
          replace hb : zHd _ := hb x106.toInt h107 h108 (zi M101) (zi_fr hJ102.2) hq105
          have hJ110 := zJ_trans hJ90 hJ102 zSub_nil
          show ZW _ _ _ _ _ _ _ (150, [some (.ref 2), some (.int 5), some (.int u130_2), some (.int v130_3), some (.int u130_4), some (.int u130_5)], [.int x106], M101)
          rcases Int.decEq x106.toInt (0 : Int) with h111 | h111
          · skip
            replace hb : zHd _ := hb.1 h111
            refine w_ieq_f dX5_readSum_150 (t := 158) rfl (by omega) ?_
            refine w_bi dX5_readSum_153 (c := (-13)) (by decide) ?_
            refine w_gt dX5_readSum_155 (t := 159) rfl ?_
            refine w_lo (ml' := [some (.ref 2), some (.int 5), some (.int (-13)), some (.int v130_3), some (.int u130_4), some (.int u130_5)]) dX5_readSum_159 rfl rfl rfl rfl ?_
            refine w_lo dX5_readSum_160 rfl rfl rfl rfl ?_
            refine w_ine_t dX5_readSum_161 (t := 167) rfl (by have := zt_m13; omega) ?_
            refine w_lo dX5_readSum_167 rfl rfl rfl rfl ?_
            refine w_iv dX5_readSum_168 rfl rfl (As := []) rfl rfl hJ110.1.1 zs_2 (Nat.le_of_ble_eq_true rfl) ?_
            obtain ⟨P114, hp115, hb⟩ := hb
            replace hb : zHd _ := hb
            refine ZV.imp (u_1289 hN hJ110.1 hp115) ?_
            rintro _ ⟨M112, rfl, hJ113, hq116⟩
            replace hb : zHd _ := hb  (zi M112) (zi_fr hJ113.2) hq116
            have hJ118 := zJ_trans hJ110 hJ113 (zSub_cons (fun _ _ h h' hk => zIR_s (zIR_s (zIR_s (zIR_s (zIR_s (zIR_s (zIR_e (by omega) (by omega) hk))))))) zSub_nil)
            show ZW _ _ _ _ _ _ _ (171, [some (.ref 2), some (.int 5), some (.int (-13)), some (.int v130_3), some (.int u130_4), some (.int u130_5)], [], M112)
            refine w_inc (kk := 3) dX5_readSum_171 rfl (m := 1) (by decide) (by omega) ?_
            intro x119 h120
            refine ⟨_, rfl, ?_⟩
            replace hb : zHd _ := hb x119.toInt h120
            show ZW _ _ _ _ _ _ _ (174, [some (.ref 2), some (.int 5), some (.int (-13)), some (.int x119), some (.int u130_4), some (.int u130_5)], [], M112)
            refine w_gt dX5_readSum_174 (t := 4) rfl ?_
            obtain ⟨m, hm, hI⟩ := hb
            exact (ih m hm).1 M112 (-13) x119 (some (.int u130_4)) (some (.int u130_5)) hJ118 (by have := zt_m13; omega) (by have := zt_m13; omega) (by omega) (by omega) hI
          · skip
            replace hb : zHd _ := hb.2 h111
            refine w_ieq_t dX5_readSum_150 (t := 158) rfl (by omega) ?_
            refine w_ic dX5_readSum_158 zi_0 ?_
            refine w_lo (ml' := [some (.ref 2), some (.int 5), some (.int 0), some (.int v130_3), some (.int u130_4), some (.int u130_5)]) dX5_readSum_159 rfl rfl rfl rfl ?_
            refine w_lo dX5_readSum_160 rfl rfl rfl rfl ?_
            refine w_ine_f dX5_readSum_161 (t := 167) rfl (by have := zt_0; omega) ?_
            refine w_gt dX5_readSum_164 (t := 177) rfl ?_
            refine w_ic dX5_readSum_177 zi_1 ?_
            refine w_en dX5_readSum_178 rfl ?_
            exact ⟨_, _, rfl, (by have := zt_1; omega), (by have := zt_1; omega), hJ110, hb⟩
  have hb : zHd _ := hbE
  show ZW _ _ _ _ _ _ _ (0, [some (.ref 2), some (.int 5), none, none, none, none], [], M0)
  refine w_ic dX5_readSum_0 zi_0 ?_
  refine w_lo (ml' := [some (.ref 2), some (.int 5), some (.int 0), none, none, none]) dX5_readSum_1 rfl rfl rfl rfl ?_
  refine w_ic dX5_readSum_2 zi_0 ?_
  refine w_lo (ml' := [some (.ref 2), some (.int 5), some (.int 0), some (.int 0), none, none]) dX5_readSum_3 rfl rfl rfl rfl ?_
  obtain ⟨m, hI⟩ := hb
  exact (main m).1 M0 0 0 none none hJ0 (by have := zt_0; omega) (by have := zt_0; omega) (by have := zt_0; omega) (by have := zt_0; omega) hI
set_option maxRecDepth 100000 in
theorem u_1298_c4 {X : List Int32} {d N : Nat} {M0 : zM}  (hN : N ≤ 600) (hB0 : zB N M0) {Q : Int → zF → Prop} (hb : b_1298_c4 (zi M0) Q) : ZV X (d + 10) 1298 [.ref 2, .int 4] M0 (zRI N [(2, 3, 0), (2, 3, 1), (20, 21, 1), (41, 42, 1), (21, 22, 1000), (42, 43, 1000), (2, 3, 7)] M0 (0) (1) (fun v M' => Q v.toInt (zi M'))) := by
  have hJ0 : zJ N [(2, 3, 0), (2, 3, 1), (20, 21, 1), (41, 42, 1), (21, 22, 1000), (42, 43, 1000), (2, 3, 7)] M0 M0 := zJ_refl hB0
  refine ZV.of (ini := false) rfl (Nat.le_of_ble_eq_true rfl) (by decide +kernel) ?_
  obtain ⟨I73, I85, I99, hbE, hb73, hb85, hb99⟩ := hb
  replace hbE : zHd _ := hbE
  replace hb73 : zHd _ := hb73
  replace hb85 : zHd _ := hb85
  replace hb99 : zHd _ := hb99
  have main : ∀ n : Nat,
      (∀ (M : zM) (v73_2 : Int32) (o73_3 : Option Value), zJ N [(2, 3, 0), (2, 3, 1), (20, 21, 1), (41, 42, 1), (21, 22, 1000), (42, 43, 1000), (2, 3, 7)] M0 M → ((-1 : Int) ≤ v73_2.toInt) → (v73_2.toInt ≤ 26) → I73 n (zi M) v73_2.toInt → ZW X (d + 9) 5 false (some .boolean) cX5_readPart (zRI N [(2, 3, 0), (2, 3, 1), (20, 21, 1), (41, 42, 1), (21, 22, 1000), (42, 43, 1000), (2, 3, 7)] M0 (0) (1) (fun v M' => Q v.toInt (zi M'))) (73, [some (.ref 2), some (.int 4), some (.int v73_2), o73_3], [], M)) ∧
      (∀ (M : zM) (v85_2 : Int32) (o85_3 : Option Value), zJ N [(2, 3, 0), (2, 3, 1), (20, 21, 1), (41, 42, 1), (21, 22, 1000), (42, 43, 1000), (2, 3, 7)] M0 M → ((25 : Int) ≤ v85_2.toInt) → (v85_2.toInt ≤ 26) → I85 n (zi M) v85_2.toInt → ZW X (d + 9) 5 false (some .boolean) cX5_readPart (zRI N [(2, 3, 0), (2, 3, 1), (20, 21, 1), (41, 42, 1), (21, 22, 1000), (42, 43, 1000), (2, 3, 7)] M0 (0) (1) (fun v M' => Q v.toInt (zi M'))) (85, [some (.ref 2), some (.int 4), some (.int v85_2), o85_3], [], M)) ∧
      (∀ (M : zM) (v99_2 : Int32) (v99_3 : Int32), zJ N [(2, 3, 0), (2, 3, 1), (20, 21, 1), (41, 42, 1), (21, 22, 1000), (42, 43, 1000), (2, 3, 7)] M0 M → ((-1 : Int) ≤ v99_2.toInt) → (v99_2.toInt ≤ 26) → ((0 : Int) ≤ v99_3.toInt) → (v99_3.toInt ≤ 1) → I99 n (zi M) v99_2.toInt v99_3.toInt → ZW X (d + 9) 5 false (some .boolean) cX5_readPart (zRI N [(2, 3, 0), (2, 3, 1), (20, 21, 1), (41, 42, 1), (21, 22, 1000), (42, 43, 1000), (2, 3, 7)] M0 (0) (1) (fun v M' => Q v.toInt (zi M'))) (99, [some (.ref 2), some (.int 4), some (.int v99_2), some (.int v99_3)], [], M)) := by
    intro n
    induction n using Nat.strongRecOn with
    | _ n ih =>
      refine ⟨?_, ?_, ?_⟩
      · intro M v73_2 o73_3 hJ v73_20 v73_21 hI
        have hb : zHd _ := hb73 n (zi M) v73_2.toInt (zi_fr hJ.2) v73_20 v73_21 hI
        refine w_lo dX5_readPart_73 rfl rfl rfl rfl ?_
        refine w_bi dX5_readPart_74 (c := 25) (by decide) ?_
        rcases Int.decEq v73_2.toInt (25 : Int) with h1 | h1
        · skip
          replace hb : zHd _ := hb.1 h1
          refine w_ceq_f dX5_readPart_76 (t := 85) rfl (by have := zt_25; omega) ?_
          refine w_lo dX5_readPart_79 rfl rfl rfl rfl ?_
          refine w_bi dX5_readPart_80 (c := 26) (by decide) ?_
          rcases Int.decEq v73_2.toInt (26 : Int) with h2 | h2
          · skip
            replace hb : zHd _ := hb.1 h2
            refine w_cne_t dX5_readPart_82 (t := 89) rfl (by have := zt_26; omega) ?_
            refine w_ic dX5_readPart_89 zi_0 ?_
            refine w_lo (ml' := [some (.ref 2), some (.int 4), some (.int v73_2), some (.int 0)]) dX5_readPart_90 rfl rfl rfl rfl ?_
            refine w_lo dX5_readPart_91 rfl rfl rfl rfl ?_
            refine w_ieq_t dX5_readPart_92 (t := 99) rfl (by have := zt_0; omega) ?_
            obtain ⟨m, hm, hI⟩ := hb
            exact (ih m hm).2.2 M v73_2 0 hJ (by omega) (by omega) (by have := zt_0; omega) (by have := zt_0; omega) hI
          · skip
            replace hb : zHd _ := hb.2 h2
            refine w_cne_f dX5_readPart_82 (t := 89) rfl (by have := zt_26; omega) ?_
            obtain ⟨m, hm, hI⟩ := hb
            exact (ih m hm).2.1 M v73_2 o73_3 hJ (by omega) (by omega) hI
        · skip
          replace hb : zHd _ := hb.2 h1
          refine w_ceq_t dX5_readPart_76 (t := 85) rfl (by have := zt_25; omega) ?_
          obtain ⟨m, hm, hI⟩ := hb
          exact (ih m hm).2.1 M v73_2 o73_3 hJ (by omega) (by omega) hI
      · intro M v85_2 o85_3 hJ v85_20 v85_21 hI
        have hb : zHd _ := hb85 n (zi M) v85_2.toInt (zi_fr hJ.2) v85_20 v85_21 hI
        refine w_ic dX5_readPart_85 zi_1 ?_
        refine w_gt dX5_readPart_86 (t := 90) rfl ?_
        refine w_lo (ml' := [some (.ref 2), some (.int 4), some (.int v85_2), some (.int 1)]) dX5_readPart_90 rfl rfl rfl rfl ?_
        refine w_lo dX5_readPart_91 rfl rfl rfl rfl ?_
        refine w_ieq_f dX5_readPart_92 (t := 99) rfl (by have := zt_1; omega) ?_
        refine w_lo dX5_readPart_95 rfl rfl rfl rfl ?_
        refine w_iv dX5_readPart_96 rfl rfl (As := []) rfl rfl hJ.1.1 zs_2 (Nat.le_of_ble_eq_true rfl) ?_
        obtain ⟨P5, hp6, hb⟩ := hb
        replace hb : zHd _ := hb
        refine ZV.imp (u_1289 hN hJ.1 hp6) ?_
        rintro _ ⟨M3, rfl, hJ4, hq7⟩
        replace hb : zHd _ := hb  (zi M3) (zi_fr hJ4.2) hq7
        have hJ9 := zJ_trans hJ hJ4 (zSub_cons (fun _ _ h h' hk => zIR_s (zIR_s (zIR_s (zIR_s (zIR_s (zIR_s (zIR_e (by omega) (by omega) hk))))))) zSub_nil)
        show ZW _ _ _ _ _ _ _ (99, [some (.ref 2), some (.int 4), some (.int v85_2), some (.int 1)], [], M3)
        obtain ⟨m, hm, hI⟩ := hb
        exact (ih m hm).2.2 M3 v85_2 1 hJ9 (by omega) (by omega) (by have := zt_1; omega) (by have := zt_1; omega) hI
      · intro M v99_2 v99_3 hJ v99_20 v99_21 v99_30 v99_31 hI
        have hb : zHd _ := hb99 n (zi M) v99_2.toInt v99_3.toInt (zi_fr hJ.2) v99_20 v99_21 v99_30 v99_31 hI
        refine w_lo dX5_readPart_99 rfl rfl rfl rfl ?_
        refine w_bi dX5_readPart_100 (c := 40) (by decide) ?_
        refine w_iv dX5_readPart_102 rfl rfl (As := [.int 40]) rfl rfl hJ.1.1 zs_2 (Nat.le_of_ble_eq_true rfl) ?_
        obtain ⟨P12, hp13, hb⟩ := hb
        replace hb : zHd _ := hb
        have hp13c : b_1299 (zi M) (40 : Int32).toInt P12 := by rw [zt_40]; exact hp13
        refine ZV.imp (u_1299 40 (by have := zt_40; omega) (by have := zt_40; omega) hN hJ.1 hp13c) ?_
        rintro _ ⟨x15, M10, rfl, h16, h17, hJ11, hq14⟩
        replace hb : zHd _ := hb x15.toInt h16 h17 (zi M10) (zi_fr hJ11.2) hq14
        have hJ19 := zJ_trans hJ hJ11 zSub_nil
        show ZW _ _ _ _ _ _ _ (105, [some (.ref 2), some (.int 4), some (.int v99_2), some (.int v99_3)], [.int x15], M10)
        rcases Int.decEq x15.toInt (0 : Int) with h20 | h20
        · skip
          replace hb : zHd _ := hb.1 h20
          refine w_ine_t dX5_readPart_105 (t := 114) rfl (by omega) ?_
          refine w_lo dX5_readPart_114 rfl rfl rfl rfl ?_
          refine w_bi dX5_readPart_115 (c := 8) (by decide) ?_
          refine w_clt_t dX5_readPart_117 (t := 126) rfl (by have := zt_4; have := zt_8; omega) ?_
          refine w_lo dX5_readPart_126 rfl rfl rfl rfl ?_
          refine w_iv dX5_readPart_127 rfl rfl (As := []) rfl rfl hJ19.1.1 zs_2 (Nat.le_of_ble_eq_true rfl) ?_
          obtain ⟨P23, hp24, hb⟩ := hb
          replace hb : zHd _ := hb
          refine ZV.imp (u_1289 hN hJ19.1 hp24) ?_
          rintro _ ⟨M21, rfl, hJ22, hq25⟩
          replace hb : zHd _ := hb  (zi M21) (zi_fr hJ22.2) hq25
          have hJ27 := zJ_trans hJ19 hJ22 (zSub_cons (fun _ _ h h' hk => zIR_s (zIR_s (zIR_s (zIR_s (zIR_s (zIR_s (zIR_e (by omega) (by omega) hk))))))) zSub_nil)
          show ZW _ _ _ _ _ _ _ (130, [some (.ref 2), some (.int 4), some (.int v99_2), some (.int v99_3)], [], M21)
          refine w_lo dX5_readPart_130 rfl rfl rfl rfl ?_
          refine w_lo dX5_readPart_131 rfl rfl rfl rfl ?_
          refine w_ic dX5_readPart_132 zi_1 ?_
          refine w_pu (st' := [.int 5, .ref 2]) dX5_readPart_133 rfl rfl ?_
          refine w_iv dX5_readPart_134 rfl rfl (As := [.int 5]) rfl rfl hJ27.1.1 zs_2 (Nat.le_of_ble_eq_true rfl) ?_
          obtain ⟨P30, hp31, hb⟩ := hb
          replace hb : zHd _ := hb
          refine ZV.imp (u_1297_c5 hN hJ27.1 hp31) ?_
          rintro _ ⟨x33, M28, rfl, h34, h35, hJ29, hq32⟩
          replace hb : zHd _ := hb x33.toInt h34 h35 (zi M28) (zi_fr hJ29.2) hq32
          have hJ37 := zJ_trans hJ27 hJ29 (zSub_cons (fun _ _ h h' hk => zIR_e (by omega) (by omega) hk) (zSub_cons (fun _ _ h h' hk => zIR_s (zIR_e (by omega) (by omega) hk)) (zSub_cons (fun _ _ h h' hk => zIR_s (zIR_s (zIR_e (by omega) (by omega) hk))) (zSub_cons (fun _ _ h h' hk => zIR_s (zIR_s (zIR_s (zIR_e (by omega) (by omega) hk)))) (zSub_cons (fun _ _ h h' hk => zIR_s (zIR_s (zIR_s (zIR_s (zIR_a (by omega) (by omega)))))) (zSub_cons (fun _ _ h h' hk => zIR_s (zIR_s (zIR_s (zIR_s (zIR_s (zIR_a (by omega) (by omega))))))) (zSub_cons (fun _ _ h h' hk => zIR_s (zIR_s (zIR_s (zIR_s (zIR_s (zIR_s (zIR_e (by omega) (by omega) hk))))))) zSub_nil)))))))
          show ZW _ _ _ _ _ _ _ (137, [some (.ref 2), some (.int 4), some (.int v99_2), some (.int v99_3)], [.int x33], M28)
          rcases Int.decEq x33.toInt (0 : Int) with h38 | h38
          · skip
            replace hb : zHd _ := hb.1 h38
            refine w_ine_t dX5_readPart_137 (t := 142) rfl (by omega) ?_
            refine w_lo dX5_readPart_142 rfl rfl rfl rfl ?_
            rcases Int.decEq v99_3.toInt (0 : Int) with h39 | h39
            · skip
              replace hb : zHd _ := hb.1 h39
              refine w_ieq_f dX5_readPart_143 (t := 200) rfl (by omega) ?_
              refine w_lo dX5_readPart_146 rfl rfl rfl rfl ?_
              refine w_bi dX5_readPart_147 (c := 44) (by decide) ?_
              refine w_iv dX5_readPart_149 rfl rfl (As := [.int 44]) rfl rfl hJ37.1.1 zs_2 (Nat.le_of_ble_eq_true rfl) ?_
              obtain ⟨P42, hp43, hb⟩ := hb
              replace hb : zHd _ := hb
              have hp43c : b_1299 (zi M28) (44 : Int32).toInt P42 := by rw [zt_44]; exact hp43
              refine ZV.imp (u_1299 44 (by have := zt_44; omega) (by have := zt_44; omega) hN hJ37.1 hp43c) ?_
              rintro _ ⟨x45, M40, rfl, h46, h47, hJ41, hq44⟩
              replace hb : zHd _ := hb x45.toInt h46 h47 (zi M40) (zi_fr hJ41.2) hq44
              have hJ49 := zJ_trans hJ37 hJ41 zSub_nil
              show ZW _ _ _ _ _ _ _ (152, [some (.ref 2), some (.int 4), some (.int v99_2), some (.int v99_3)], [.int x45], M40)
              rcases Int.decEq x45.toInt (0 : Int) with h50 | h50
              · skip
                replace hb : zHd _ := hb.1 h50
                refine w_ine_t dX5_readPart_152 (t := 161) rfl (by omega) ?_
                refine w_lo dX5_readPart_161 rfl rfl rfl rfl ?_
                refine w_iv dX5_readPart_162 rfl rfl (As := []) rfl rfl hJ49.1.1 zs_2 (Nat.le_of_ble_eq_true rfl) ?_
                obtain ⟨P53, hp54, hb⟩ := hb
                replace hb : zHd _ := hb
                refine ZV.imp (u_1289 hN hJ49.1 hp54) ?_
                rintro _ ⟨M51, rfl, hJ52, hq55⟩
                replace hb : zHd _ := hb  (zi M51) (zi_fr hJ52.2) hq55
                have hJ57 := zJ_trans hJ49 hJ52 (zSub_cons (fun _ _ h h' hk => zIR_s (zIR_s (zIR_s (zIR_s (zIR_s (zIR_s (zIR_e (by omega) (by omega) hk))))))) zSub_nil)
                show ZW _ _ _ _ _ _ _ (165, [some (.ref 2), some (.int 4), some (.int v99_2), some (.int v99_3)], [], M51)
                refine w_lo dX5_readPart_165 rfl rfl rfl rfl ?_
                refine w_lo dX5_readPart_166 rfl rfl rfl rfl ?_
                refine w_ic dX5_readPart_167 zi_1 ?_
                refine w_pu (st' := [.int 5, .ref 2]) dX5_readPart_168 rfl rfl ?_
                refine w_iv dX5_readPart_169 rfl rfl (As := [.int 5]) rfl rfl hJ57.1.1 zs_2 (Nat.le_of_ble_eq_true rfl) ?_
                obtain ⟨P60, hp61, hb⟩ := hb
                replace hb : zHd _ := hb
                refine ZV.imp (u_1297_c5 hN hJ57.1 hp61) ?_
                rintro _ ⟨x63, M58, rfl, h64, h65, hJ59, hq62⟩
                replace hb : zHd _ := hb x63.toInt h64 h65 (zi M58) (zi_fr hJ59.2) hq62
                have hJ67 := zJ_trans hJ57 hJ59 (zSub_cons (fun _ _ h h' hk => zIR_e (by omega) (by omega) hk) (zSub_cons (fun _ _ h h' hk => zIR_s (zIR_e (by omega) (by omega) hk)) (zSub_cons (fun _ _ h h' hk => zIR_s (zIR_s (zIR_e (by omega) (by omega) hk))) (zSub_cons (fun _ _ h h' hk => zIR_s (zIR_s (zIR_s (zIR_e (by omega) (by omega) hk)))) (zSub_cons (fun _ _ h h' hk => zIR_s (zIR_s (zIR_s (zIR_s (zIR_a (by omega) (by omega)))))) (zSub_cons (fun _ _ h h' hk => zIR_s (zIR_s (zIR_s (zIR_s (zIR_s (zIR_a (by omega) (by omega))))))) (zSub_cons (fun _ _ h h' hk => zIR_s (zIR_s (zIR_s (zIR_s (zIR_s (zIR_s (zIR_e (by omega) (by omega) hk))))))) zSub_nil)))))))
                show ZW _ _ _ _ _ _ _ (172, [some (.ref 2), some (.int 4), some (.int v99_2), some (.int v99_3)], [.int x63], M58)
                rcases Int.decEq x63.toInt (0 : Int) with h68 | h68
                · skip
                  replace hb : zHd _ := hb.1 h68
                  refine w_ine_t dX5_readPart_172 (t := 177) rfl (by omega) ?_
                  refine w_lo dX5_readPart_177 rfl rfl rfl rfl ?_
                  obtain ⟨b69, f70, h71⟩ := zd_2_8 hJ67.1
                  have h72 := zDm_b h71
                  refine w_gf dX5_readPart_178 rfl hJ67.1.1 zs_2 f70 ?_
                  replace hb : zHd _ := hb b69 (ziR f70) (zDm_or h71)
                  refine w_gf dX5_readPart_181 rfl hJ67.1.1 (zs_1_0 h71) (zr_1_0_15 h71 hJ67.1) ?_
                  refine w_lo dX5_readPart_184 rfl rfl rfl rfl ?_
                  refine w_bi dX5_readPart_185 (c := 25) (by decide) ?_
                  rcases Int.decEq v99_2.toInt (25 : Int) with h73 | h73
                  · skip
                    replace hb : zHd _ := hb.1 h73
                    refine w_cne_t dX5_readPart_187 (t := 195) rfl (by have := zt_25; omega) ?_
                    refine w_bi dX5_readPart_195 (c := (-20)) (by decide) ?_
                    refine w_iv dX5_readPart_197 rfl rfl (As := [.int (-20)]) rfl rfl hJ67.1.1 (zs_1_13 h71) (Nat.le_of_ble_eq_true rfl) ?_
                    obtain ⟨P76, hp77, hb⟩ := hb
                    replace hb : zHd _ := hb
                    have hp77c : b_515 (b69 + 13) (zi M58) ((-20) : Int32).toInt P76 := by rw [zt_m20]; exact hp77
                    refine ZV.imp (u_515 (b69 + 13) (zLw_of h71) (-20) hN hJ67.1 hp77c) ?_
                    rintro _ ⟨M74, rfl, hJ75, hq78⟩
                    replace hb : zHd _ := hb  (zi M74) (zi_fr hJ75.2) hq78
                    have hJ80 := zJ_trans hJ67 hJ75 (zSub_cons (fun _ _ h h' hk => ((zDm_or h71).elim (fun e => zIR_s (zIR_s (zIR_e (by omega) (by omega) hk))) (fun e => zIR_s (zIR_s (zIR_s (zIR_e (by omega) (by omega) hk)))))) (zSub_cons (fun _ _ h h' hk => ((zDm_or h71).elim (fun e => zIR_s (zIR_s (zIR_s (zIR_s (zIR_a (by omega) (by omega)))))) (fun e => zIR_s (zIR_s (zIR_s (zIR_s (zIR_s (zIR_a (by omega) (by omega))))))))) zSub_nil))
                    show ZW _ _ _ _ _ _ _ (200, [some (.ref 2), some (.int 4), some (.int v99_2), some (.int v99_3)], [], M74)
                    refine w_lo dX5_readPart_200 rfl rfl rfl rfl ?_
                    refine w_bi dX5_readPart_201 (c := 41) (by decide) ?_
                    refine w_iv dX5_readPart_203 rfl rfl (As := [.int 41]) rfl rfl hJ80.1.1 zs_2 (Nat.le_of_ble_eq_true rfl) ?_
                    obtain ⟨P83, hp84, hb⟩ := hb
                    replace hb : zHd _ := hb
                    have hp84c : b_1299 (zi M74) (41 : Int32).toInt P83 := by rw [zt_41]; exact hp84
                    refine ZV.imp (u_1299 41 (by have := zt_41; omega) (by have := zt_41; omega) hN hJ80.1 hp84c) ?_
                    rintro _ ⟨x86, M81, rfl, h87, h88, hJ82, hq85⟩
                    replace hb : zHd _ := hb x86.toInt h87 h88 (zi M81) (zi_fr hJ82.2) hq85
                    have hJ90 := zJ_trans hJ80 hJ82 zSub_nil
                    show ZW _ _ _ _ _ _ _ (206, [some (.ref 2), some (.int 4), some (.int v99_2), some (.int v99_3)], [.int x86], M81)
                    rcases Int.decEq x86.toInt (0 : Int) with h91 | h91
                    · skip
                      replace hb : zHd _ := hb.1 h91
                      refine w_ine_t dX5_readPart_206 (t := 215) rfl (by omega) ?_
                      refine w_lo dX5_readPart_215 rfl rfl rfl rfl ?_
                      refine w_iv dX5_readPart_216 rfl rfl (As := []) rfl rfl hJ90.1.1 zs_2 (Nat.le_of_ble_eq_true rfl) ?_
                      obtain ⟨P94, hp95, hb⟩ := hb
                      replace hb : zHd _ := hb
                      refine ZV.imp (u_1289 hN hJ90.1 hp95) ?_
                      rintro _ ⟨M92, rfl, hJ93, hq96⟩
                      replace hb : zHd _ := hb  (zi M92) (zi_fr hJ93.2) hq96
                      have hJ98 := zJ_trans hJ90 hJ93 (zSub_cons (fun _ _ h h' hk => zIR_s (zIR_s (zIR_s (zIR_s (zIR_s (zIR_s (zIR_e (by omega) (by omega) hk))))))) zSub_nil)
                      show ZW _ _ _ _ _ _ _ (219, [some (.ref 2), some (.int 4), some (.int v99_2), some (.int v99_3)], [], M92)
                      refine w_ic dX5_readPart_219 zi_1 ?_
                      refine w_en dX5_readPart_220 rfl ?_
                      exact ⟨_, _, rfl, (by have := zt_1; omega), (by have := zt_1; omega), hJ98, hb⟩
                    · skip
                      replace hb : zHd _ := hb.2 h91
                      refine w_ine_f dX5_readPart_206 (t := 215) rfl (by omega) ?_
                      refine w_lo dX5_readPart_209 rfl rfl rfl rfl ?_
                      refine w_ic dX5_readPart_210 zi_1 ?_
                      refine w_iv dX5_readPart_211 rfl rfl (As := [.int 1]) rfl rfl hJ90.1.1 zs_2 (Nat.le_of_ble_eq_true rfl) ?_
                      obtain ⟨P101, hp102, hb⟩ := hb
                      replace hb : zHd _ := hb
                      have hp102c : b_1286 (zi M81) (1 : Int32).toInt P101 := by rw [zt_1]; exact hp102
                      refine ZV.imp (u_1286 1 (by have := zt_1; omega) (by have := zt_1; omega) hN hJ90.1 hp102c) ?_
                      rintro _ ⟨x104, M99, rfl, h105, h106, hJ100, hq103⟩
                      replace hb : zHd _ := hb x104.toInt h105 h106 (zi M99) (zi_fr hJ100.2) hq103
                      have hJ108 := zJ_trans hJ90 hJ100 (zSub_cons (fun _ _ h h' hk => zIR_e (by omega) (by omega) hk) (zSub_cons (fun _ _ h h' hk => zIR_s (zIR_e (by omega) (by omega) hk)) zSub_nil))
                      show ZW _ _ _ _ _ _ _ (214, [some (.ref 2), some (.int 4), some (.int v99_2), some (.int v99_3)], [.int x104], M99)
                      refine w_eni dX5_readPart_214 rfl (znb (by omega) (by omega)) ?_
                      exact ⟨_, _, rfl, (by omega), (by omega), hJ108, hb⟩
                  · skip
                    replace hb : zHd _ := hb.2 h73
                    refine w_cne_f dX5_readPart_187 (t := 195) rfl (by have := zt_25; omega) ?_
                    refine w_bi dX5_readPart_190 (c := (-19)) (by decide) ?_
                    refine w_gt dX5_readPart_192 (t := 197) rfl ?_
                    refine w_iv dX5_readPart_197 rfl rfl (As := [.int (-19)]) rfl rfl hJ67.1.1 (zs_1_13 h71) (Nat.le_of_ble_eq_true rfl) ?_
                    obtain ⟨P111, hp112, hb⟩ := hb
                    replace hb : zHd _ := hb
                    have hp112c : b_515 (b69 + 13) (zi M58) ((-19) : Int32).toInt P111 := by rw [zt_m19]; exact hp112
                    refine ZV.imp (u_515 (b69 + 13) (zLw_of h71) (-19) hN hJ67.1 hp112c) ?_
                    rintro _ ⟨M109, rfl, hJ110, hq113⟩
                    replace hb : zHd _ := hb  (zi M109) (zi_fr hJ110.2) hq113
                    have hJ115 := zJ_trans hJ67 hJ110 (zSub_cons (fun _ _ h h' hk => ((zDm_or h71).elim (fun e => zIR_s (zIR_s (zIR_e (by omega) (by omega) hk))) (fun e => zIR_s (zIR_s (zIR_s (zIR_e (by omega) (by omega) hk)))))) (zSub_cons (fun _ _ h h' hk => ((zDm_or h71).elim (fun e => zIR_s (zIR_s (zIR_s (zIR_s (zIR_a (by omega) (by omega)))))) (fun e => zIR_s (zIR_s (zIR_s (zIR_s (zIR_s (zIR_a (by omega) (by omega))))))))) zSub_nil))
                    show ZW _ _ _ _ _ _ _ (200, [some (.ref 2), some (.int 4), some (.int v99_2), some (.int v99_3)], [], M109)
                    refine w_lo dX5_readPart_200 rfl rfl rfl rfl ?_
                    refine w_bi dX5_readPart_201 (c := 41) (by decide) ?_
                    refine w_iv dX5_readPart_203 rfl rfl (As := [.int 41]) rfl rfl hJ115.1.1 zs_2 (Nat.le_of_ble_eq_true rfl) ?_
                    obtain ⟨P118, hp119, hb⟩ := hb
                    replace hb : zHd _ := hb
                    have hp119c : b_1299 (zi M109) (41 : Int32).toInt P118 := by rw [zt_41]; exact hp119
                    refine ZV.imp (u_1299 41 (by have := zt_41; omega) (by have := zt_41; omega) hN hJ115.1 hp119c) ?_
                    rintro _ ⟨x121, M116, rfl, h122, h123, hJ117, hq120⟩
                    replace hb : zHd _ := hb x121.toInt h122 h123 (zi M116) (zi_fr hJ117.2) hq120
                    have hJ125 := zJ_trans hJ115 hJ117 zSub_nil
                    show ZW _ _ _ _ _ _ _ (206, [some (.ref 2), some (.int 4), some (.int v99_2), some (.int v99_3)], [.int x121], M116)
                    rcases Int.decEq x121.toInt (0 : Int) with h126 | h126
                    · skip
                      replace hb : zHd _ := hb.1 h126
                      refine w_ine_t dX5_readPart_206 (t := 215) rfl (by omega) ?_
                      refine w_lo dX5_readPart_215 rfl rfl rfl rfl ?_
                      refine w_iv dX5_readPart_216 rfl rfl (As := []) rfl rfl hJ125.1.1 zs_2 (Nat.le_of_ble_eq_true rfl) ?_
                      obtain ⟨P129, hp130, hb⟩ := hb
                      replace hb : zHd _ := hb
                      refine ZV.imp (u_1289 hN hJ125.1 hp130) ?_
                      rintro _ ⟨M127, rfl, hJ128, hq131⟩
                      replace hb : zHd _ := hb  (zi M127) (zi_fr hJ128.2) hq131
                      have hJ133 := zJ_trans hJ125 hJ128 (zSub_cons (fun _ _ h h' hk => zIR_s (zIR_s (zIR_s (zIR_s (zIR_s (zIR_s (zIR_e (by omega) (by omega) hk))))))) zSub_nil)
                      show ZW _ _ _ _ _ _ _ (219, [some (.ref 2), some (.int 4), some (.int v99_2), some (.int v99_3)], [], M127)
                      refine w_ic dX5_readPart_219 zi_1 ?_
                      refine w_en dX5_readPart_220 rfl ?_
                      exact ⟨_, _, rfl, (by have := zt_1; omega), (by have := zt_1; omega), hJ133, hb⟩
                    · skip
                      replace hb : zHd _ := hb.2 h126
                      refine w_ine_f dX5_readPart_206 (t := 215) rfl (by omega) ?_
                      refine w_lo dX5_readPart_209 rfl rfl rfl rfl ?_
                      refine w_ic dX5_readPart_210 zi_1 ?_
                      refine w_iv dX5_readPart_211 rfl rfl (As := [.int 1]) rfl rfl hJ125.1.1 zs_2 (Nat.le_of_ble_eq_true rfl) ?_
                      obtain ⟨P136, hp137, hb⟩ := hb
                      replace hb : zHd _ := hb
                      have hp137c : b_1286 (zi M116) (1 : Int32).toInt P136 := by rw [zt_1]; exact hp137
                      refine ZV.imp (u_1286 1 (by have := zt_1; omega) (by have := zt_1; omega) hN hJ125.1 hp137c) ?_
                      rintro _ ⟨x139, M134, rfl, h140, h141, hJ135, hq138⟩
                      replace hb : zHd _ := hb x139.toInt h140 h141 (zi M134) (zi_fr hJ135.2) hq138
                      have hJ143 := zJ_trans hJ125 hJ135 (zSub_cons (fun _ _ h h' hk => zIR_e (by omega) (by omega) hk) (zSub_cons (fun _ _ h h' hk => zIR_s (zIR_e (by omega) (by omega) hk)) zSub_nil))
                      show ZW _ _ _ _ _ _ _ (214, [some (.ref 2), some (.int 4), some (.int v99_2), some (.int v99_3)], [.int x139], M134)
                      refine w_eni dX5_readPart_214 rfl (znb (by omega) (by omega)) ?_
                      exact ⟨_, _, rfl, (by omega), (by omega), hJ143, hb⟩
                · skip
                  replace hb : zHd _ := hb.2 h68
                  refine w_ine_f dX5_readPart_172 (t := 177) rfl (by omega) ?_
                  refine w_ic dX5_readPart_175 zi_0 ?_
                  refine w_en dX5_readPart_176 rfl ?_
                  exact ⟨_, _, rfl, (by have := zt_0; omega), (by have := zt_0; omega), hJ67, hb⟩
              · skip
                replace hb : zHd _ := hb.2 h50
                refine w_ine_f dX5_readPart_152 (t := 161) rfl (by omega) ?_
                refine w_lo dX5_readPart_155 rfl rfl rfl rfl ?_
                refine w_ic dX5_readPart_156 zi_1 ?_
                refine w_iv dX5_readPart_157 rfl rfl (As := [.int 1]) rfl rfl hJ49.1.1 zs_2 (Nat.le_of_ble_eq_true rfl) ?_
                obtain ⟨P146, hp147, hb⟩ := hb
                replace hb : zHd _ := hb
                have hp147c : b_1286 (zi M40) (1 : Int32).toInt P146 := by rw [zt_1]; exact hp147
                refine ZV.imp (u_1286 1 (by have := zt_1; omega) (by have := zt_1; omega) hN hJ49.1 hp147c) ?_
                rintro _ ⟨x149, M144, rfl, h150, h151, hJ145, hq148⟩
                replace hb : zHd _ := hb x149.toInt h150 h151 (zi M144) (zi_fr hJ145.2) hq148
                have hJ153 := zJ_trans hJ49 hJ145 (zSub_cons (fun _ _ h h' hk => zIR_e (by omega) (by omega) hk) (zSub_cons (fun _ _ h h' hk => zIR_s (zIR_e (by omega) (by omega) hk)) zSub_nil))
                show ZW _ _ _ _ _ _ _ (160, [some (.ref 2), some (.int 4), some (.int v99_2), some (.int v99_3)], [.int x149], M144)
                refine w_eni dX5_readPart_160 rfl (znb (by omega) (by omega)) ?_
                exact ⟨_, _, rfl, (by omega), (by omega), hJ153, hb⟩
            · skip
              replace hb : zHd _ := hb.2 h39
              refine w_ieq_t dX5_readPart_143 (t := 200) rfl (by omega) ?_
              refine w_lo dX5_readPart_200 rfl rfl rfl rfl ?_
              refine w_bi dX5_readPart_201 (c := 41) (by decide) ?_
              refine w_iv dX5_readPart_203 rfl rfl (As := [.int 41]) rfl rfl hJ37.1.1 zs_2 (Nat.le_of_ble_eq_true rfl) ?_
              obtain ⟨P156, hp157, hb⟩ := hb
              replace hb : zHd _ := hb
              have hp157c : b_1299 (zi M28) (41 : Int32).toInt P156 := by rw [zt_41]; exact hp157
              refine ZV.imp (u_1299 41 (by have := zt_41; omega) (by have := zt_41; omega) hN hJ37.1 hp157c) ?_
              rintro _ ⟨x159, M154, rfl, h160, h161, hJ155, hq158⟩
              replace hb : zHd _ := hb x159.toInt h160 h161 (zi M154) (zi_fr hJ155.2) hq158
              have hJ163 := zJ_trans hJ37 hJ155 zSub_nil
              show ZW _ _ _ _ _ _ _ (206, [some (.ref 2), some (.int 4), some (.int v99_2), some (.int v99_3)], [.int x159], M154)
              rcases Int.decEq x159.toInt (0 : Int) with h164 | h164
              · skip
                replace hb : zHd _ := hb.1 h164
                refine w_ine_t dX5_readPart_206 (t := 215) rfl (by omega) ?_
                refine w_lo dX5_readPart_215 rfl rfl rfl rfl ?_
                refine w_iv dX5_readPart_216 rfl rfl (As := []) rfl rfl hJ163.1.1 zs_2 (Nat.le_of_ble_eq_true rfl) ?_
                obtain ⟨P167, hp168, hb⟩ := hb
                replace hb : zHd _ := hb
                refine ZV.imp (u_1289 hN hJ163.1 hp168) ?_
                rintro _ ⟨M165, rfl, hJ166, hq169⟩
                replace hb : zHd _ := hb  (zi M165) (zi_fr hJ166.2) hq169
                have hJ171 := zJ_trans hJ163 hJ166 (zSub_cons (fun _ _ h h' hk => zIR_s (zIR_s (zIR_s (zIR_s (zIR_s (zIR_s (zIR_e (by omega) (by omega) hk))))))) zSub_nil)
                show ZW _ _ _ _ _ _ _ (219, [some (.ref 2), some (.int 4), some (.int v99_2), some (.int v99_3)], [], M165)
                refine w_ic dX5_readPart_219 zi_1 ?_
                refine w_en dX5_readPart_220 rfl ?_
                exact ⟨_, _, rfl, (by have := zt_1; omega), (by have := zt_1; omega), hJ171, hb⟩
              · skip
                replace hb : zHd _ := hb.2 h164
                refine w_ine_f dX5_readPart_206 (t := 215) rfl (by omega) ?_
                refine w_lo dX5_readPart_209 rfl rfl rfl rfl ?_
                refine w_ic dX5_readPart_210 zi_1 ?_
                refine w_iv dX5_readPart_211 rfl rfl (As := [.int 1]) rfl rfl hJ163.1.1 zs_2 (Nat.le_of_ble_eq_true rfl) ?_
                obtain ⟨P174, hp175, hb⟩ := hb
                replace hb : zHd _ := hb
                have hp175c : b_1286 (zi M154) (1 : Int32).toInt P174 := by rw [zt_1]; exact hp175
                refine ZV.imp (u_1286 1 (by have := zt_1; omega) (by have := zt_1; omega) hN hJ163.1 hp175c) ?_
                rintro _ ⟨x177, M172, rfl, h178, h179, hJ173, hq176⟩
                replace hb : zHd _ := hb x177.toInt h178 h179 (zi M172) (zi_fr hJ173.2) hq176
                have hJ181 := zJ_trans hJ163 hJ173 (zSub_cons (fun _ _ h h' hk => zIR_e (by omega) (by omega) hk) (zSub_cons (fun _ _ h h' hk => zIR_s (zIR_e (by omega) (by omega) hk)) zSub_nil))
                show ZW _ _ _ _ _ _ _ (214, [some (.ref 2), some (.int 4), some (.int v99_2), some (.int v99_3)], [.int x177], M172)
                refine w_eni dX5_readPart_214 rfl (znb (by omega) (by omega)) ?_
                exact ⟨_, _, rfl, (by omega), (by omega), hJ181, hb⟩
          · skip
            replace hb : zHd _ := hb.2 h38
            refine w_ine_f dX5_readPart_137 (t := 142) rfl (by omega) ?_
            refine w_ic dX5_readPart_140 zi_0 ?_
            refine w_en dX5_readPart_141 rfl ?_
            exact ⟨_, _, rfl, (by have := zt_0; omega), (by have := zt_0; omega), hJ37, hb⟩
        · skip
          replace hb : zHd _ := hb.2 h20
          refine w_ine_f dX5_readPart_105 (t := 114) rfl (by omega) ?_
          refine w_lo dX5_readPart_108 rfl rfl rfl rfl ?_
          refine w_ic dX5_readPart_109 zi_1 ?_
          refine w_iv dX5_readPart_110 rfl rfl (As := [.int 1]) rfl rfl hJ19.1.1 zs_2 (Nat.le_of_ble_eq_true rfl) ?_
          obtain ⟨P184, hp185, hb⟩ := hb
          replace hb : zHd _ := hb
          have hp185c : b_1286 (zi M10) (1 : Int32).toInt P184 := by rw [zt_1]; exact hp185
          refine ZV.imp (u_1286 1 (by have := zt_1; omega) (by have := zt_1; omega) hN hJ19.1 hp185c) ?_
          rintro _ ⟨x187, M182, rfl, h188, h189, hJ183, hq186⟩
          replace hb : zHd _ := hb x187.toInt h188 h189 (zi M182) (zi_fr hJ183.2) hq186
          have hJ191 := zJ_trans hJ19 hJ183 (zSub_cons (fun _ _ h h' hk => zIR_e (by omega) (by omega) hk) (zSub_cons (fun _ _ h h' hk => zIR_s (zIR_e (by omega) (by omega) hk)) zSub_nil))
          show ZW _ _ _ _ _ _ _ (113, [some (.ref 2), some (.int 4), some (.int v99_2), some (.int v99_3)], [.int x187], M182)
          refine w_eni dX5_readPart_113 rfl (znb (by omega) (by omega)) ?_
          exact ⟨_, _, rfl, (by omega), (by omega), hJ191, hb⟩
  have hb : zHd _ := hbE
  show ZW _ _ _ _ _ _ _ (0, [some (.ref 2), some (.int 4), none, none], [], M0)
  refine w_lo dX5_readPart_0 rfl rfl rfl rfl ?_
  refine w_gf dX5_readPart_1 rfl hJ0.1.1 zs_2 (zr_2_3 hJ0.1) ?_
  refine w_lo dX5_readPart_4 rfl rfl rfl rfl ?_
  refine w_gfi dX5_readPart_5 rfl hJ0.1 zs_2 (Nat.le_of_ble_eq_true rfl) zo_2_7 ?_
  intro x192 f193 h194 h195
  replace hb : zHd _ := hb x192.toInt (ziE f193) h194 h195
  refine w_iai dX5_readPart_8 hJ0.1 zs_4 (by omega) (by omega) zu_4 ?_
  intro x199 f196 h197 h198
  replace hb : zHd _ := hb x199.toInt (ziEk f196 rfl) h197 h198
  refine w_ic dX5_readPart_9 zi_4 ?_
  rcases Int.decEq x199.toInt (4 : Int) with h200 | h200
  · skip
    replace hb : zHd _ := hb.1 h200
    refine w_cne_t dX5_readPart_10 (t := 38) rfl (by have := zt_4; omega) ?_
    refine w_lo dX5_readPart_38 rfl rfl rfl rfl ?_
    refine w_iv dX5_readPart_39 rfl rfl (As := []) rfl rfl hJ0.1.1 zs_2 (Nat.le_of_ble_eq_true rfl) ?_
    obtain ⟨P203, hp204, hb⟩ := hb
    replace hb : zHd _ := hb
    refine ZV.imp (u_1287 hN hJ0.1 hp204) ?_
    rintro _ ⟨x206, M201, rfl, h207, h208, hJ202, hq205⟩
    replace hb : zHd _ := hb x206.toInt h207 h208 (zi M201) (zi_fr hJ202.2) hq205
    have hJ210 := zJ_trans hJ0 hJ202 zSub_nil
    show ZW _ _ _ _ _ _ _ (42, [some (.ref 2), some (.int 4), none, none], [.int x206], M201)
    refine w_lo (ml' := [some (.ref 2), some (.int 4), some (.int x206), none]) dX5_readPart_42 rfl rfl rfl rfl ?_
    refine w_lo dX5_readPart_43 rfl rfl rfl rfl ?_
    refine w_ic dX5_readPart_44 zi_m1 ?_
    rcases Int.decEq x206.toInt (-1 : Int) with h211 | h211
    · skip
      replace hb : zHd _ := hb.1 h211
      refine w_ceq_f dX5_readPart_45 (t := 73) rfl (by have := zt_m1; omega) ?_
      refine w_lo dX5_readPart_48 rfl rfl rfl rfl ?_
      refine w_bi dX5_readPart_49 (c := 7) (by decide) ?_
      rcases zcut x206.toInt (7 : Int) with h212 | h212
      · skip
        replace hb : zHd _ := hb.1 h212
        refine w_cge_f dX5_readPart_51 (t := 73) rfl (by have := zt_7; omega) ?_
        refine w_lo dX5_readPart_54 rfl rfl rfl rfl ?_
        obtain ⟨b213, f214, h215⟩ := zd_2_8 hJ210.1
        have h216 := zDm_b h215
        refine w_gf dX5_readPart_55 rfl hJ210.1.1 zs_2 f214 ?_
        replace hb : zHd _ := hb b213 (ziR f214) (zDm_or h215)
        refine w_gf dX5_readPart_58 rfl hJ210.1.1 (zs_1_0 h215) (zr_1_0_15 h215 hJ210.1) ?_
        refine w_ic dX5_readPart_61 zi_m1 ?_
        refine w_lo dX5_readPart_62 rfl rfl rfl rfl ?_
        refine w_sub dX5_readPart_63 (by have := zt_m1; omega) ?_
        intro x217 h218
        have := zt_m1
        replace hb : zHd _ := hb x217.toInt (by have := zt_m1; omega)
        refine w_iv dX5_readPart_64 rfl rfl (As := [.int x217]) rfl rfl hJ210.1.1 (zs_1_13 h215) (Nat.le_of_ble_eq_true rfl) ?_
        obtain ⟨P221, hp222, hb⟩ := hb
        replace hb : zHd _ := hb
        refine ZV.imp (u_515 (b213 + 13) (zLw_of h215) x217 hN hJ210.1 hp222) ?_
        rintro _ ⟨M219, rfl, hJ220, hq223⟩
        replace hb : zHd _ := hb  (zi M219) (zi_fr hJ220.2) hq223
        have hJ225 := zJ_trans hJ210 hJ220 (zSub_cons (fun _ _ h h' hk => ((zDm_or h215).elim (fun e => zIR_s (zIR_s (zIR_e (by omega) (by omega) hk))) (fun e => zIR_s (zIR_s (zIR_s (zIR_e (by omega) (by omega) hk)))))) (zSub_cons (fun _ _ h h' hk => ((zDm_or h215).elim (fun e => zIR_s (zIR_s (zIR_s (zIR_s (zIR_a (by omega) (by omega)))))) (fun e => zIR_s (zIR_s (zIR_s (zIR_s (zIR_s (zIR_a (by omega) (by omega))))))))) zSub_nil))
        show ZW _ _ _ _ _ _ _ (67, [some (.ref 2), some (.int 4), some (.int x206), none], [], M219)
        refine w_lo dX5_readPart_67 rfl rfl rfl rfl ?_
        refine w_iv dX5_readPart_68 rfl rfl (As := []) rfl rfl hJ225.1.1 zs_2 (Nat.le_of_ble_eq_true rfl) ?_
        obtain ⟨P228, hp229, hb⟩ := hb
        replace hb : zHd _ := hb
        refine ZV.imp (u_1289 hN hJ225.1 hp229) ?_
        rintro _ ⟨M226, rfl, hJ227, hq230⟩
        replace hb : zHd _ := hb  (zi M226) (zi_fr hJ227.2) hq230
        have hJ232 := zJ_trans hJ225 hJ227 (zSub_cons (fun _ _ h h' hk => zIR_s (zIR_s (zIR_s (zIR_s (zIR_s (zIR_s (zIR_e (by omega) (by omega) hk))))))) zSub_nil)
        show ZW _ _ _ _ _ _ _ (71, [some (.ref 2), some (.int 4), some (.int x206), none], [], M226)
        refine w_ic dX5_readPart_71 zi_1 ?_
        refine w_en dX5_readPart_72 rfl ?_
        exact ⟨_, _, rfl, (by have := zt_1; omega), (by have := zt_1; omega), hJ232, hb⟩
      · skip
        replace hb : zHd _ := hb.2 h212
        refine w_cge_t dX5_readPart_51 (t := 73) rfl (by have := zt_7; omega) ?_
        obtain ⟨m, hI⟩ := hb
        exact (main m).1 M201 x206 none hJ210 (by omega) (by omega) hI
    · skip
      replace hb : zHd _ := hb.2 h211
      refine w_ceq_t dX5_readPart_45 (t := 73) rfl (by have := zt_m1; omega) ?_
      obtain ⟨m, hI⟩ := hb
      exact (main m).1 M201 x206 none hJ210 (by omega) (by omega) hI
  · skip
    replace hb : zHd _ := hb.2 h200
    refine w_cne_f dX5_readPart_10 (t := 38) rfl (by have := zt_4; omega) ?_
    refine w_lo dX5_readPart_13 rfl rfl rfl rfl ?_
    obtain ⟨b233, f234, h235⟩ := zd_2_8 hJ0.1
    have h236 := zDm_b h235
    refine w_gf dX5_readPart_14 rfl hJ0.1.1 zs_2 f234 ?_
    replace hb : zHd _ := hb b233 (ziR f234) (zDm_or h235)
    refine w_gf dX5_readPart_17 rfl hJ0.1.1 (zs_1_0 h235) (zr_1_0_15 h235 hJ0.1) ?_
    refine w_lo dX5_readPart_20 rfl rfl rfl rfl ?_
    refine w_gf dX5_readPart_21 rfl hJ0.1.1 zs_2 (zr_2_4 hJ0.1) ?_
    refine w_lo dX5_readPart_24 rfl rfl rfl rfl ?_
    refine w_gf dX5_readPart_25 rfl hJ0.1.1 zs_2 f193 ?_
    refine w_iai dX5_readPart_28 hJ0.1 zs_5 (by omega) (by omega) zu_5 ?_
    intro x240 f237 h238 h239
    replace hb : zHd _ := hb x240.toInt (ziEk f237 rfl)
    refine w_iv dX5_readPart_29 rfl rfl (As := [.int x240]) rfl rfl hJ0.1.1 (zs_1_13 h235) (Nat.le_of_ble_eq_true rfl) ?_
    obtain ⟨P243, hp244, hb⟩ := hb
    replace hb : zHd _ := hb
    refine ZV.imp (u_515 (b233 + 13) (zLw_of h235) x240 hN hJ0.1 hp244) ?_
    rintro _ ⟨M241, rfl, hJ242, hq245⟩
    replace hb : zHd _ := hb  (zi M241) (zi_fr hJ242.2) hq245
    have hJ247 := zJ_trans hJ0 hJ242 (zSub_cons (fun _ _ h h' hk => ((zDm_or h235).elim (fun e => zIR_s (zIR_s (zIR_e (by omega) (by omega) hk))) (fun e => zIR_s (zIR_s (zIR_s (zIR_e (by omega) (by omega) hk)))))) (zSub_cons (fun _ _ h h' hk => ((zDm_or h235).elim (fun e => zIR_s (zIR_s (zIR_s (zIR_s (zIR_a (by omega) (by omega)))))) (fun e => zIR_s (zIR_s (zIR_s (zIR_s (zIR_s (zIR_a (by omega) (by omega))))))))) zSub_nil))
    show ZW _ _ _ _ _ _ _ (32, [some (.ref 2), some (.int 4), none, none], [], M241)
    refine w_lo dX5_readPart_32 rfl rfl rfl rfl ?_
    refine w_iv dX5_readPart_33 rfl rfl (As := []) rfl rfl hJ247.1.1 zs_2 (Nat.le_of_ble_eq_true rfl) ?_
    obtain ⟨P250, hp251, hb⟩ := hb
    replace hb : zHd _ := hb
    refine ZV.imp (u_1289 hN hJ247.1 hp251) ?_
    rintro _ ⟨M248, rfl, hJ249, hq252⟩
    replace hb : zHd _ := hb  (zi M248) (zi_fr hJ249.2) hq252
    have hJ254 := zJ_trans hJ247 hJ249 (zSub_cons (fun _ _ h h' hk => zIR_s (zIR_s (zIR_s (zIR_s (zIR_s (zIR_s (zIR_e (by omega) (by omega) hk))))))) zSub_nil)
    show ZW _ _ _ _ _ _ _ (36, [some (.ref 2), some (.int 4), none, none], [], M248)
    refine w_ic dX5_readPart_36 zi_1 ?_
    refine w_en dX5_readPart_37 rfl ?_
    exact ⟨_, _, rfl, (by have := zt_1; omega), (by have := zt_1; omega), hJ254, hb⟩
set_option maxRecDepth 100000 in
theorem u_1297_c4 {X : List Int32} {d N : Nat} {M0 : zM}  (hN : N ≤ 600) (hB0 : zB N M0) {Q : Int → zF → Prop} (hb : b_1297_c4 (zi M0) Q) : ZV X (d + 11) 1297 [.ref 2, .int 4] M0 (zRI N [(2, 3, 0), (2, 3, 1), (20, 21, 1), (41, 42, 1), (21, 22, 1000), (42, 43, 1000), (2, 3, 7)] M0 (0) (1) (fun v M' => Q v.toInt (zi M'))) := by
  have hJ0 : zJ N [(2, 3, 0), (2, 3, 1), (20, 21, 1), (41, 42, 1), (21, 22, 1000), (42, 43, 1000), (2, 3, 7)] M0 M0 := zJ_refl hB0
  refine ZV.of (ini := false) rfl (Nat.le_of_ble_eq_true rfl) (by decide +kernel) ?_
  obtain ⟨I4, I17, I52, I95, I115, I130, hbE, hb4, hb17, hb52, hb95, hb115, hb130⟩ := hb
  replace hbE : zHd _ := hbE
  replace hb4 : zHd _ := hb4
  replace hb17 : zHd _ := hb17
  replace hb52 : zHd _ := hb52
  replace hb95 : zHd _ := hb95
  replace hb115 : zHd _ := hb115
  replace hb130 : zHd _ := hb130
  have main : ∀ n : Nat,
      (∀ (M : zM) (v4_2 : Int32) (v4_3 : Int32) (o4_4 : Option Value) (o4_5 : Option Value), zJ N [(2, 3, 0), (2, 3, 1), (20, 21, 1), (41, 42, 1), (21, 22, 1000), (42, 43, 1000), (2, 3, 7)] M0 M → ((-13 : Int) ≤ v4_2.toInt) → (v4_2.toInt ≤ 0) → ((0 : Int) ≤ v4_3.toInt) → (v4_3.toInt ≤ 1601) → I4 n (zi M) v4_2.toInt v4_3.toInt → ZW X (d + 10) 5 false (some .boolean) cX5_readSum (zRI N [(2, 3, 0), (2, 3, 1), (20, 21, 1), (41, 42, 1), (21, 22, 1000), (42, 43, 1000), (2, 3, 7)] M0 (0) (1) (fun v M' => Q v.toInt (zi M'))) (4, [some (.ref 2), some (.int 4), some (.int v4_2), some (.int v4_3), o4_4, o4_5], [], M)) ∧
      (∀ (M : zM) (v17_2 : Int32) (v17_3 : Int32) (v17_4 : Int32) (v17_5 : Int32), zJ N [(2, 3, 0), (2, 3, 1), (20, 21, 1), (41, 42, 1), (21, 22, 1000), (42, 43, 1000), (2, 3, 7)] M0 M → ((-2147483648 : Int) ≤ v17_2.toInt) → (v17_2.toInt ≤ 0) → ((0 : Int) ≤ v17_3.toInt) → (v17_3.toInt ≤ 1600) → ((-11 : Int) ≤ v17_4.toInt) → (v17_4.toInt ≤ 0) → ((0 : Int) ≤ v17_5.toInt) → (v17_5.toInt ≤ 1601) → I17 n (zi M) v17_2.toInt v17_3.toInt v17_4.toInt v17_5.toInt → ZW X (d + 10) 5 false (some .boolean) cX5_readSum (zRI N [(2, 3, 0), (2, 3, 1), (20, 21, 1), (41, 42, 1), (21, 22, 1000), (42, 43, 1000), (2, 3, 7)] M0 (0) (1) (fun v M' => Q v.toInt (zi M'))) (17, [some (.ref 2), some (.int 4), some (.int v17_2), some (.int v17_3), some (.int v17_4), some (.int v17_5)], [], M)) ∧
      (∀ (M : zM) (v52_2 : Int32) (v52_3 : Int32) (u52_4 : Int32) (v52_5 : Int32), zJ N [(2, 3, 0), (2, 3, 1), (20, 21, 1), (41, 42, 1), (21, 22, 1000), (42, 43, 1000), (2, 3, 7)] M0 M → ((-2147483648 : Int) ≤ v52_2.toInt) → (v52_2.toInt ≤ 0) → ((0 : Int) ≤ v52_3.toInt) → (v52_3.toInt ≤ 1600) → ((0 : Int) ≤ v52_5.toInt) → (v52_5.toInt ≤ 1600) → I52 n (zi M) v52_2.toInt v52_3.toInt v52_5.toInt → ZW X (d + 10) 5 false (some .boolean) cX5_readSum (zRI N [(2, 3, 0), (2, 3, 1), (20, 21, 1), (41, 42, 1), (21, 22, 1000), (42, 43, 1000), (2, 3, 7)] M0 (0) (1) (fun v M' => Q v.toInt (zi M'))) (52, [some (.ref 2), some (.int 4), some (.int v52_2), some (.int v52_3), some (.int u52_4), some (.int v52_5)], [], M)) ∧
      (∀ (M : zM) (v95_2 : Int32) (v95_3 : Int32) (u95_4 : Int32) (v95_5 : Int32) (s95_0 : Int32), zJ N [(2, 3, 0), (2, 3, 1), (20, 21, 1), (41, 42, 1), (21, 22, 1000), (42, 43, 1000), (2, 3, 7)] M0 M → ((-2147483648 : Int) ≤ v95_2.toInt) → (v95_2.toInt ≤ 0) → ((0 : Int) ≤ v95_3.toInt) → (v95_3.toInt ≤ 1600) → ((0 : Int) ≤ v95_5.toInt) → (v95_5.toInt ≤ 1600) → ((-11 : Int) ≤ s95_0.toInt) → (s95_0.toInt ≤ 0) → I95 n (zi M) v95_2.toInt v95_3.toInt v95_5.toInt s95_0.toInt → ZW X (d + 10) 5 false (some .boolean) cX5_readSum (zRI N [(2, 3, 0), (2, 3, 1), (20, 21, 1), (41, 42, 1), (21, 22, 1000), (42, 43, 1000), (2, 3, 7)] M0 (0) (1) (fun v M' => Q v.toInt (zi M'))) (95, [some (.ref 2), some (.int 4), some (.int v95_2), some (.int v95_3), some (.int u95_4), some (.int v95_5)], [.int s95_0], M)) ∧
      (∀ (M : zM) (v115_2 : Int32) (v115_3 : Int32) (u115_4 : Int32) (u115_5 : Int32), zJ N [(2, 3, 0), (2, 3, 1), (20, 21, 1), (41, 42, 1), (21, 22, 1000), (42, 43, 1000), (2, 3, 7)] M0 M → ((-2147483648 : Int) ≤ v115_2.toInt) → (v115_2.toInt ≤ 0) → ((0 : Int) ≤ v115_3.toInt) → (v115_3.toInt ≤ 1600) → I115 n (zi M) v115_2.toInt v115_3.toInt → ZW X (d + 10) 5 false (some .boolean) cX5_readSum (zRI N [(2, 3, 0), (2, 3, 1), (20, 21, 1), (41, 42, 1), (21, 22, 1000), (42, 43, 1000), (2, 3, 7)] M0 (0) (1) (fun v M' => Q v.toInt (zi M'))) (115, [some (.ref 2), some (.int 4), some (.int v115_2), some (.int v115_3), some (.int u115_4), some (.int u115_5)], [], M)) ∧
      (∀ (M : zM) (u130_2 : Int32) (v130_3 : Int32) (u130_4 : Int32) (u130_5 : Int32), zJ N [(2, 3, 0), (2, 3, 1), (20, 21, 1), (41, 42, 1), (21, 22, 1000), (42, 43, 1000), (2, 3, 7)] M0 M → ((0 : Int) ≤ v130_3.toInt) → (v130_3.toInt ≤ 1600) → I130 n (zi M) v130_3.toInt → ZW X (d + 10) 5 false (some .boolean) cX5_readSum (zRI N [(2, 3, 0), (2, 3, 1), (20, 21, 1), (41, 42, 1), (21, 22, 1000), (42, 43, 1000), (2, 3, 7)] M0 (0) (1) (fun v M' => Q v.toInt (zi M'))) (130, [some (.ref 2), some (.int 4), some (.int u130_2), some (.int v130_3), some (.int u130_4), some (.int u130_5)], [], M)) := by
    intro n
    induction n using Nat.strongRecOn with
    | _ n ih =>
      refine ⟨?_, ?_, ?_, ?_, ?_, ?_⟩
      · intro M v4_2 v4_3 o4_4 o4_5 hJ v4_20 v4_21 v4_30 v4_31 hI
        have hb : zHd _ := hb4 n (zi M) v4_2.toInt v4_3.toInt (zi_fr hJ.2) v4_20 v4_21 v4_30 v4_31 hI
        refine w_lo dX5_readSum_4 rfl rfl rfl rfl ?_
        refine w_si dX5_readSum_5 (c := 1600) (by decide) ?_
        rcases zcut (1600 : Int) v4_3.toInt with h1 | h1
        · skip
          replace hb : zHd _ := hb.1 h1
          refine w_cgt_t dX5_readSum_8 (t := 177) rfl (by have := zt_1600; omega) ?_
          refine w_ic dX5_readSum_177 zi_1 ?_
          refine w_en dX5_readSum_178 rfl ?_
          exact ⟨_, _, rfl, (by have := zt_1; omega), (by have := zt_1; omega), hJ, hb⟩
        · skip
          replace hb : zHd _ := hb.2 h1
          refine w_cgt_f dX5_readSum_8 (t := 177) rfl (by have := zt_1600; omega) ?_
          refine w_ic dX5_readSum_11 zi_0 ?_
          refine w_lo (ml' := [some (.ref 2), some (.int 4), some (.int v4_2), some (.int v4_3), some (.int 0), o4_5]) dX5_readSum_12 rfl rfl rfl rfl ?_
          refine w_ic dX5_readSum_14 zi_0 ?_
          refine w_lo (ml' := [some (.ref 2), some (.int 4), some (.int v4_2), some (.int v4_3), some (.int 0), some (.int 0)]) dX5_readSum_15 rfl rfl rfl rfl ?_
          obtain ⟨m, hm, hI⟩ := hb
          exact (ih m hm).2.1 M v4_2 v4_3 0 0 hJ (zbot _) (by omega) (by omega) (by omega) (by have := zt_0; omega) (by have := zt_0; omega) (by have := zt_0; omega) (by have := zt_0; omega) hI
      · intro M v17_2 v17_3 v17_4 v17_5 hJ v17_20 v17_21 v17_30 v17_31 v17_40 v17_41 v17_50 v17_51 hI
        have hb : zHd _ := hb17 n (zi M) v17_2.toInt v17_3.toInt v17_4.toInt v17_5.toInt (zi_fr hJ.2) v17_21 v17_30 v17_31 v17_40 v17_41 v17_50 v17_51 hI
        refine w_lo dX5_readSum_17 rfl rfl rfl rfl ?_
        refine w_si dX5_readSum_19 (c := 1600) (by decide) ?_
        rcases zcut (1600 : Int) v17_5.toInt with h2 | h2
        · skip
          replace hb : zHd _ := hb.1 h2
          refine w_cgt_t dX5_readSum_22 (t := 115) rfl (by have := zt_1600; omega) ?_
          obtain ⟨m, hm, hI⟩ := hb
          exact (ih m hm).2.2.2.2.1 M v17_2 v17_3 v17_4 v17_5 hJ (zbot _) (by omega) (by omega) (by omega) hI
        · skip
          replace hb : zHd _ := hb.2 h2
          refine w_cgt_f dX5_readSum_22 (t := 115) rfl (by have := zt_1600; omega) ?_
          refine w_lo dX5_readSum_25 rfl rfl rfl rfl ?_
          refine w_lo dX5_readSum_26 rfl rfl rfl rfl ?_
          refine w_iv dX5_readSum_27 rfl rfl (As := [.int 4]) rfl rfl hJ.1.1 zs_2 (Nat.le_of_ble_eq_true rfl) ?_
          obtain ⟨P5, hp6, hb⟩ := hb
          replace hb : zHd _ := hb
          refine ZV.imp (u_1298_c4 hN hJ.1 hp6) ?_
          rintro _ ⟨x8, M3, rfl, h9, h10, hJ4, hq7⟩
          replace hb : zHd _ := hb x8.toInt h9 h10 (zi M3) (zi_fr hJ4.2) hq7
          have hJ12 := zJ_trans hJ hJ4 (zSub_cons (fun _ _ h h' hk => zIR_e (by omega) (by omega) hk) (zSub_cons (fun _ _ h h' hk => zIR_s (zIR_e (by omega) (by omega) hk)) (zSub_cons (fun _ _ h h' hk => zIR_s (zIR_s (zIR_e (by omega) (by omega) hk))) (zSub_cons (fun _ _ h h' hk => zIR_s (zIR_s (zIR_s (zIR_e (by omega) (by omega) hk)))) (zSub_cons (fun _ _ h h' hk => zIR_s (zIR_s (zIR_s (zIR_s (zIR_a (by omega) (by omega)))))) (zSub_cons (fun _ _ h h' hk => zIR_s (zIR_s (zIR_s (zIR_s (zIR_s (zIR_a (by omega) (by omega))))))) (zSub_cons (fun _ _ h h' hk => zIR_s (zIR_s (zIR_s (zIR_s (zIR_s (zIR_s (zIR_e (by omega) (by omega) hk))))))) zSub_nil)))))))
          show ZW _ _ _ _ _ _ _ (30, [some (.ref 2), some (.int 4), some (.int v17_2), some (.int v17_3), some (.int v17_4), some (.int v17_5)], [.int x8], M3)
          rcases Int.decEq x8.toInt (0 : Int) with h13 | h13
          · skip
            replace hb : zHd _ := hb.1 h13
            refine w_ine_t dX5_readSum_30 (t := 35) rfl (by omega) ?_
            refine w_lo dX5_readSum_35 rfl rfl rfl rfl ?_
            rcases Int.decEq v17_4.toInt (0 : Int) with h14 | h14
            · skip
              replace hb : zHd _ := hb.1 h14
              refine w_ieq_f dX5_readSum_37 (t := 52) rfl (by omega) ?_
              refine w_lo dX5_readSum_40 rfl rfl rfl rfl ?_
              obtain ⟨b15, f16, h17⟩ := zd_2_8 hJ12.1
              have h18 := zDm_b h17
              refine w_gf dX5_readSum_41 rfl hJ12.1.1 zs_2 f16 ?_
              replace hb : zHd _ := hb b15 (ziR f16) (zDm_or h17)
              refine w_gf dX5_readSum_44 rfl hJ12.1.1 (zs_1_0 h17) (zr_1_0_15 h17 hJ12.1) ?_
              refine w_lo dX5_readSum_47 rfl rfl rfl rfl ?_
              refine w_iv dX5_readSum_49 rfl rfl (As := [.int v17_4]) rfl rfl hJ12.1.1 (zs_1_13 h17) (Nat.le_of_ble_eq_true rfl) ?_
              obtain ⟨P21, hp22, hb⟩ := hb
              replace hb : zHd _ := hb
              refine ZV.imp (u_515 (b15 + 13) (zLw_of h17) v17_4 hN hJ12.1 hp22) ?_
              rintro _ ⟨M19, rfl, hJ20, hq23⟩
              replace hb : zHd _ := hb  (zi M19) (zi_fr hJ20.2) hq23
              have hJ25 := zJ_trans hJ12 hJ20 (zSub_cons (fun _ _ h h' hk => ((zDm_or h17).elim (fun e => zIR_s (zIR_s (zIR_e (by omega) (by omega) hk))) (fun e => zIR_s (zIR_s (zIR_s (zIR_e (by omega) (by omega) hk)))))) (zSub_cons (fun _ _ h h' hk => ((zDm_or h17).elim (fun e => zIR_s (zIR_s (zIR_s (zIR_s (zIR_a (by omega) (by omega)))))) (fun e => zIR_s (zIR_s (zIR_s (zIR_s (zIR_s (zIR_a (by omega) (by omega))))))))) zSub_nil))
              show ZW _ _ _ _ _ _ _ (52, [some (.ref 2), some (.int 4), some (.int v17_2), some (.int v17_3), some (.int v17_4), some (.int v17_5)], [], M19)
              obtain ⟨m, hm, hI⟩ := hb
              exact (ih m hm).2.2.1 M19 v17_2 v17_3 v17_4 v17_5 hJ25 (zbot _) (by omega) (by omega) (by omega) (by omega) (by omega) hI
            · skip
              replace hb : zHd _ := hb.2 h14
              refine w_ieq_t dX5_readSum_37 (t := 52) rfl (by omega) ?_
              obtain ⟨m, hm, hI⟩ := hb
              exact (ih m hm).2.2.1 M3 v17_2 v17_3 v17_4 v17_5 hJ12 (zbot _) (by omega) (by omega) (by omega) (by omega) (by omega) hI
          · skip
            replace hb : zHd _ := hb.2 h13
            refine w_ine_f dX5_readSum_30 (t := 35) rfl (by omega) ?_
            refine w_ic dX5_readSum_33 zi_0 ?_
            refine w_en dX5_readSum_34 rfl ?_
            exact ⟨_, _, rfl, (by have := zt_0; omega), (by have := zt_0; omega), hJ12, hb⟩
      · intro M v52_2 v52_3 u52_4 v52_5 hJ v52_20 v52_21 v52_30 v52_31 v52_50 v52_51 hI
        have hb : zHd _ := hb52 n (zi M) v52_2.toInt v52_3.toInt v52_5.toInt (zi_fr hJ.2) v52_21 v52_30 v52_31 v52_50 v52_51 hI
        refine w_lo dX5_readSum_52 rfl rfl rfl rfl ?_
        refine w_bi dX5_readSum_53 (c := 42) (by decide) ?_
        refine w_iv dX5_readSum_55 rfl rfl (As := [.int 42]) rfl rfl hJ.1.1 zs_2 (Nat.le_of_ble_eq_true rfl) ?_
        obtain ⟨P28, hp29, hb⟩ := hb
        replace hb : zHd _ := hb
        have hp29c : b_1299 (zi M) (42 : Int32).toInt P28 := by rw [zt_42]; exact hp29
        refine ZV.imp (u_1299 42 (by have := zt_42; omega) (by have := zt_42; omega) hN hJ.1 hp29c) ?_
        rintro _ ⟨x31, M26, rfl, h32, h33, hJ27, hq30⟩
        replace hb : zHd _ := hb x31.toInt h32 h33 (zi M26) (zi_fr hJ27.2) hq30
        have hJ35 := zJ_trans hJ hJ27 zSub_nil
        show ZW _ _ _ _ _ _ _ (58, [some (.ref 2), some (.int 4), some (.int v52_2), some (.int v52_3), some (.int u52_4), some (.int v52_5)], [.int x31], M26)
        rcases Int.decEq x31.toInt (0 : Int) with h36 | h36
        · skip
          replace hb : zHd _ := hb.1 h36
          refine w_ieq_f dX5_readSum_58 (t := 66) rfl (by omega) ?_
          refine w_bi dX5_readSum_61 (c := (-9)) (by decide) ?_
          refine w_gt dX5_readSum_63 (t := 95) rfl ?_
          obtain ⟨m, hm, hI⟩ := hb
          exact (ih m hm).2.2.2.1 M26 v52_2 v52_3 u52_4 v52_5 (-9) hJ35 (zbot _) (by omega) (by omega) (by omega) (by omega) (by omega) (by have := zt_m9; omega) (by have := zt_m9; omega) hI
        · skip
          replace hb : zHd _ := hb.2 h36
          refine w_ieq_t dX5_readSum_58 (t := 66) rfl (by omega) ?_
          refine w_lo dX5_readSum_66 rfl rfl rfl rfl ?_
          refine w_bi dX5_readSum_67 (c := 47) (by decide) ?_
          refine w_iv dX5_readSum_69 rfl rfl (As := [.int 47]) rfl rfl hJ35.1.1 zs_2 (Nat.le_of_ble_eq_true rfl) ?_
          obtain ⟨P39, hp40, hb⟩ := hb
          replace hb : zHd _ := hb
          have hp40c : b_1299 (zi M26) (47 : Int32).toInt P39 := by rw [zt_47]; exact hp40
          refine ZV.imp (u_1299 47 (by have := zt_47; omega) (by have := zt_47; omega) hN hJ35.1 hp40c) ?_
          rintro _ ⟨x42, M37, rfl, h43, h44, hJ38, hq41⟩
          replace hb : zHd _ := hb x42.toInt h43 h44 (zi M37) (zi_fr hJ38.2) hq41
          have hJ46 := zJ_trans hJ35 hJ38 zSub_nil
          show ZW _ _ _ _ _ _ _ (72, [some (.ref 2), some (.int 4), some (.int v52_2), some (.int v52_3), some (.int u52_4), some (.int v52_5)], [.int x42], M37)
          rcases Int.decEq x42.toInt (0 : Int) with h47 | h47
          · skip
            replace hb : zHd _ := hb.1 h47
            refine w_ieq_f dX5_readSum_72 (t := 80) rfl (by omega) ?_
            refine w_bi dX5_readSum_75 (c := (-10)) (by decide) ?_
            refine w_gt dX5_readSum_77 (t := 95) rfl ?_
            obtain ⟨m, hm, hI⟩ := hb
            exact (ih m hm).2.2.2.1 M37 v52_2 v52_3 u52_4 v52_5 (-10) hJ46 (zbot _) (by omega) (by omega) (by omega) (by omega) (by omega) (by have := zt_m10; omega) (by have := zt_m10; omega) hI
          · skip
            replace hb : zHd _ := hb.2 h47
            refine w_ieq_t dX5_readSum_72 (t := 80) rfl (by omega) ?_
            refine w_lo dX5_readSum_80 rfl rfl rfl rfl ?_
            refine w_bi dX5_readSum_81 (c := 37) (by decide) ?_
            refine w_iv dX5_readSum_83 rfl rfl (As := [.int 37]) rfl rfl hJ46.1.1 zs_2 (Nat.le_of_ble_eq_true rfl) ?_
            obtain ⟨P50, hp51, hb⟩ := hb
            replace hb : zHd _ := hb
            have hp51c : b_1299 (zi M37) (37 : Int32).toInt P50 := by rw [zt_37]; exact hp51
            refine ZV.imp (u_1299 37 (by have := zt_37; omega) (by have := zt_37; omega) hN hJ46.1 hp51c) ?_
            rintro _ ⟨x53, M48, rfl, h54, h55, hJ49, hq52⟩
            replace hb : zHd _ := hb x53.toInt h54 h55 (zi M48) (zi_fr hJ49.2) hq52
            have hJ57 := zJ_trans hJ46 hJ49 zSub_nil
            show ZW _ _ _ _ _ _ _ (86, [some (.ref 2), some (.int 4), some (.int v52_2), some (.int v52_3), some (.int u52_4), some (.int v52_5)], [.int x53], M48)
            rcases Int.decEq x53.toInt (0 : Int) with h58 | h58
            · skip
              replace hb : zHd _ := hb.1 h58
              refine w_ieq_f dX5_readSum_86 (t := 94) rfl (by omega) ?_
              refine w_bi dX5_readSum_89 (c := (-11)) (by decide) ?_
              refine w_gt dX5_readSum_91 (t := 95) rfl ?_
              obtain ⟨m, hm, hI⟩ := hb
              exact (ih m hm).2.2.2.1 M48 v52_2 v52_3 u52_4 v52_5 (-11) hJ57 (zbot _) (by omega) (by omega) (by omega) (by omega) (by omega) (by have := zt_m11; omega) (by have := zt_m11; omega) hI
            · skip
              replace hb : zHd _ := hb.2 h58
              refine w_ieq_t dX5_readSum_86 (t := 94) rfl (by omega) ?_
              refine w_ic dX5_readSum_94 zi_0 ?_
              obtain ⟨m, hm, hI⟩ := hb
              exact (ih m hm).2.2.2.1 M48 v52_2 v52_3 u52_4 v52_5 0 hJ57 (zbot _) (by omega) (by omega) (by omega) (by omega) (by omega) (by have := zt_0; omega) (by have := zt_0; omega) hI
      · intro M v95_2 v95_3 u95_4 v95_5 s95_0 hJ v95_20 v95_21 v95_30 v95_31 v95_50 v95_51 s95_00 s95_01 hI
        have hb : zHd _ := hb95 n (zi M) v95_2.toInt v95_3.toInt v95_5.toInt s95_0.toInt (zi_fr hJ.2) v95_21 v95_30 v95_31 v95_50 v95_51 s95_00 s95_01 hI
        refine w_lo (ml' := [some (.ref 2), some (.int 4), some (.int v95_2), some (.int v95_3), some (.int s95_0), some (.int v95_5)]) dX5_readSum_95 rfl rfl rfl rfl ?_
        refine w_lo dX5_readSum_97 rfl rfl rfl rfl ?_
        rcases Int.decEq s95_0.toInt (0 : Int) with h59 | h59
        · skip
          replace hb : zHd _ := hb.1 h59
          refine w_ine_t dX5_readSum_99 (t := 105) rfl (by omega) ?_
          refine w_lo dX5_readSum_105 rfl rfl rfl rfl ?_
          refine w_iv dX5_readSum_106 rfl rfl (As := []) rfl rfl hJ.1.1 zs_2 (Nat.le_of_ble_eq_true rfl) ?_
          obtain ⟨P62, hp63, hb⟩ := hb
          replace hb : zHd _ := hb
          refine ZV.imp (u_1289 hN hJ.1 hp63) ?_
          rintro _ ⟨M60, rfl, hJ61, hq64⟩
          replace hb : zHd _ := hb  (zi M60) (zi_fr hJ61.2) hq64
          have hJ66 := zJ_trans hJ hJ61 (zSub_cons (fun _ _ h h' hk => zIR_s (zIR_s (zIR_s (zIR_s (zIR_s (zIR_s (zIR_e (by omega) (by omega) hk))))))) zSub_nil)
          show ZW _ _ _ _ _ _ _ (109, [some (.ref 2), some (.int 4), some (.int v95_2), some (.int v95_3), some (.int s95_0), some (.int v95_5)], [], M60)
          refine w_inc (kk := 5) dX5_readSum_109 rfl (m := 1) (by decide) (by omega) ?_
          intro x67 h68
          refine ⟨_, rfl, ?_⟩
          replace hb : zHd _ := hb x67.toInt h68
          show ZW _ _ _ _ _ _ _ (112, [some (.ref 2), some (.int 4), some (.int v95_2), some (.int v95_3), some (.int s95_0), some (.int x67)], [], M60)
          refine w_gt dX5_readSum_112 (t := 17) rfl ?_
          obtain ⟨m, hm, hI⟩ := hb
          exact (ih m hm).2.1 M60 v95_2 v95_3 s95_0 x67 hJ66 (zbot _) (by omega) (by omega) (by omega) (by omega) (by omega) (by omega) (by omega) hI
        · skip
          replace hb : zHd _ := hb.2 h59
          refine w_ine_f dX5_readSum_99 (t := 105) rfl (by omega) ?_
          refine w_gt dX5_readSum_102 (t := 115) rfl ?_
          obtain ⟨m, hm, hI⟩ := hb
          exact (ih m hm).2.2.2.2.1 M v95_2 v95_3 s95_0 v95_5 hJ (zbot _) (by omega) (by omega) (by omega) hI
      · intro M v115_2 v115_3 u115_4 u115_5 hJ v115_20 v115_21 v115_30 v115_31 hI
        have hb : zHd _ := hb115 n (zi M) v115_2.toInt v115_3.toInt (zi_fr hJ.2) v115_21 v115_30 v115_31 hI
        refine w_lo dX5_readSum_115 rfl rfl rfl rfl ?_
        rcases Int.decEq v115_2.toInt (0 : Int) with h69 | h69
        · skip
          replace hb : zHd _ := hb.1 h69
          refine w_ieq_f dX5_readSum_116 (t := 130) rfl (by omega) ?_
          refine w_lo dX5_readSum_119 rfl rfl rfl rfl ?_
          obtain ⟨b70, f71, h72⟩ := zd_2_8 hJ.1
          have h73 := zDm_b h72
          refine w_gf dX5_readSum_120 rfl hJ.1.1 zs_2 f71 ?_
          replace hb : zHd _ := hb b70 (ziR f71) (zDm_or h72)
          refine w_gf dX5_readSum_123 rfl hJ.1.1 (zs_1_0 h72) (zr_1_0_15 h72 hJ.1) ?_
          refine w_lo dX5_readSum_126 rfl rfl rfl rfl ?_
          refine w_iv dX5_readSum_127 rfl rfl (As := [.int v115_2]) rfl rfl hJ.1.1 (zs_1_13 h72) (Nat.le_of_ble_eq_true rfl) ?_
          obtain ⟨P76, hp77, hb⟩ := hb
          replace hb : zHd _ := hb
          refine ZV.imp (u_515 (b70 + 13) (zLw_of h72) v115_2 hN hJ.1 hp77) ?_
          rintro _ ⟨M74, rfl, hJ75, hq78⟩
          replace hb : zHd _ := hb  (zi M74) (zi_fr hJ75.2) hq78
          have hJ80 := zJ_trans hJ hJ75 (zSub_cons (fun _ _ h h' hk => ((zDm_or h72).elim (fun e => zIR_s (zIR_s (zIR_e (by omega) (by omega) hk))) (fun e => zIR_s (zIR_s (zIR_s (zIR_e (by omega) (by omega) hk)))))) (zSub_cons (fun _ _ h h' hk => ((zDm_or h72).elim (fun e => zIR_s (zIR_s (zIR_s (zIR_s (zIR_a (by omega) (by omega)))))) (fun e => zIR_s (zIR_s (zIR_s (zIR_s (zIR_s (zIR_a (by omega) (by omega))))))))) zSub_nil))
          show ZW _ _ _ _ _ _ _ (130, [some (.ref 2), some (.int 4), some (.int v115_2), some (.int v115_3), some (.int u115_4), some (.int u115_5)], [], M74)
          obtain ⟨m, hm, hI⟩ := hb
          exact (ih m hm).2.2.2.2.2 M74 v115_2 v115_3 u115_4 u115_5 hJ80 (by omega) (by omega) hI
        · skip
          replace hb : zHd _ := hb.2 h69
          refine w_ieq_t dX5_readSum_116 (t := 130) rfl (by omega) ?_
          obtain ⟨m, hm, hI⟩ := hb
          exact (ih m hm).2.2.2.2.2 M v115_2 v115_3 u115_4 u115_5 hJ (by omega) (by omega) hI
      · intro M u130_2 v130_3 u130_4 u130_5 hJ v130_30 v130_31 hI
        have hb : zHd _ := hb130 n (zi M) v130_3.toInt (zi_fr hJ.2) v130_30 v130_31 hI
        refine w_lo dX5_readSum_130 rfl rfl rfl rfl ?_
        refine w_bi dX5_readSum_131 (c := 43) (by decide) ?_
        refine w_iv dX5_readSum_133 rfl rfl (As := [.int 43]) rfl rfl hJ.1.1 zs_2 (Nat.le_of_ble_eq_true rfl) ?_
        obtain ⟨P83, hp84, hb⟩ := hb
        replace hb : zHd _ := hb
        have hp84c : b_1299 (zi M) (43 : Int32).toInt P83 := by rw [zt_43]; exact hp84
        refine ZV.imp (u_1299 43 (by have := zt_43; omega) (by have := zt_43; omega) hN hJ.1 hp84c) ?_
        rintro _ ⟨x86, M81, rfl, h87, h88, hJ82, hq85⟩
        replace hb : zHd _ := hb x86.toInt h87 h88 (zi M81) (zi_fr hJ82.2) hq85
        have hJ90 := zJ_trans hJ hJ82 zSub_nil
        show ZW _ _ _ _ _ _ _ (136, [some (.ref 2), some (.int 4), some (.int u130_2), some (.int v130_3), some (.int u130_4), some (.int u130_5)], [.int x86], M81)
        rcases Int.decEq x86.toInt (0 : Int) with h91 | h91
        · skip
          replace hb : zHd _ := hb.1 h91
          refine w_ieq_f dX5_readSum_136 (t := 144) rfl (by omega) ?_
          refine w_bi dX5_readSum_139 (c := (-12)) (by decide) ?_
          refine w_gt dX5_readSum_141 (t := 159) rfl ?_
          refine w_lo (ml' := [some (.ref 2), some (.int 4), some (.int (-12)), some (.int v130_3), some (.int u130_4), some (.int u130_5)]) dX5_readSum_159 rfl rfl rfl rfl ?_
          refine w_lo dX5_readSum_160 rfl rfl rfl rfl ?_
          refine w_ine_t dX5_readSum_161 (t := 167) rfl (by have := zt_m12; omega) ?_
          refine w_lo dX5_readSum_167 rfl rfl rfl rfl ?_
          refine w_iv dX5_readSum_168 rfl rfl (As := []) rfl rfl hJ90.1.1 zs_2 (Nat.le_of_ble_eq_true rfl) ?_
          obtain ⟨P94, hp95, hb⟩ := hb
          replace hb : zHd _ := hb
          refine ZV.imp (u_1289 hN hJ90.1 hp95) ?_
          rintro _ ⟨M92, rfl, hJ93, hq96⟩
          replace hb : zHd _ := hb  (zi M92) (zi_fr hJ93.2) hq96
          have hJ98 := zJ_trans hJ90 hJ93 (zSub_cons (fun _ _ h h' hk => zIR_s (zIR_s (zIR_s (zIR_s (zIR_s (zIR_s (zIR_e (by omega) (by omega) hk))))))) zSub_nil)
          show ZW _ _ _ _ _ _ _ (171, [some (.ref 2), some (.int 4), some (.int (-12)), some (.int v130_3), some (.int u130_4), some (.int u130_5)], [], M92)
          refine w_inc (kk := 3) dX5_readSum_171 rfl (m := 1) (by decide) (by omega) ?_
          intro x99 h100
          refine ⟨_, rfl, ?_⟩
          replace hb : zHd _ := hb x99.toInt h100
          show ZW _ _ _ _ _ _ _ (174, [some (.ref 2), some (.int 4), some (.int (-12)), some (.int x99), some (.int u130_4), some (.int u130_5)], [], M92)
          refine w_gt dX5_readSum_174 (t := 4) rfl ?_
          obtain ⟨m, hm, hI⟩ := hb
          exact (ih m hm).1 M92 (-12) x99 (some (.int u130_4)) (some (.int u130_5)) hJ98 (by have := zt_m12; omega) (by have := zt_m12; omega) (by omega) (by omega) hI
        · skip
          replace hb : zHd _ := hb.2 h91
          refine w_ieq_t dX5_readSum_136 (t := 144) rfl (by omega) ?_
          refine w_lo dX5_readSum_144 rfl rfl rfl rfl ?_
          refine w_bi dX5_readSum_145 (c := 45) (by decide) ?_
          refine w_iv dX5_readSum_147 rfl rfl (As := [.int 45]) rfl rfl hJ90.1.1 zs_2 (Nat.le_of_ble_eq_true rfl) ?_
          obtain ⟨P103, hp104, hb⟩ := hb
          replace hb : zHd _ := hb
          have hp104c : b_1299 (zi M81) (45 : Int32).toInt P103 := by rw [zt_45]; exact hp104
          refine ZV.imp (u_1299 45 (by have := zt_45; omega) (by have := zt_45; omega) hN hJ90.1 hp104c) ?_
          rintro _ ⟨x106, M101, rfl, h107, h108, hJ102, hq105⟩
          replace hb : zHd _ := hb x106.toInt h107 h108 (zi M101) (zi_fr hJ102.2) hq105
          have hJ110 := zJ_trans hJ90 hJ102 zSub_nil
          show ZW _ _ _ _ _ _ _ (150, [some (.ref 2), some (.int 4), some (.int u130_2), some (.int v130_3), some (.int u130_4), some (.int u130_5)], [.int x106], M101)
          rcases Int.decEq x106.toInt (0 : Int) with h111 | h111
          · skip
            replace hb : zHd _ := hb.1 h111
            refine w_ieq_f dX5_readSum_150 (t := 158) rfl (by omega) ?_
            refine w_bi dX5_readSum_153 (c := (-13)) (by decide) ?_
            refine w_gt dX5_readSum_155 (t := 159) rfl ?_
            refine w_lo (ml' := [some (.ref 2), some (.int 4), some (.int (-13)), some (.int v130_3), some (.int u130_4), some (.int u130_5)]) dX5_readSum_159 rfl rfl rfl rfl ?_
            refine w_lo dX5_readSum_160 rfl rfl rfl rfl ?_
            refine w_ine_t dX5_readSum_161 (t := 167) rfl (by have := zt_m13; omega) ?_
            refine w_lo dX5_readSum_167 rfl rfl rfl rfl ?_
            refine w_iv dX5_readSum_168 rfl rfl (As := []) rfl rfl hJ110.1.1 zs_2 (Nat.le_of_ble_eq_true rfl) ?_
            obtain ⟨P114, hp115, hb⟩ := hb
            replace hb : zHd _ := hb
            refine ZV.imp (u_1289 hN hJ110.1 hp115) ?_
            rintro _ ⟨M112, rfl, hJ113, hq116⟩
            replace hb : zHd _ := hb  (zi M112) (zi_fr hJ113.2) hq116
            have hJ118 := zJ_trans hJ110 hJ113 (zSub_cons (fun _ _ h h' hk => zIR_s (zIR_s (zIR_s (zIR_s (zIR_s (zIR_s (zIR_e (by omega) (by omega) hk))))))) zSub_nil)
            show ZW _ _ _ _ _ _ _ (171, [some (.ref 2), some (.int 4), some (.int (-13)), some (.int v130_3), some (.int u130_4), some (.int u130_5)], [], M112)
            refine w_inc (kk := 3) dX5_readSum_171 rfl (m := 1) (by decide) (by omega) ?_
            intro x119 h120
            refine ⟨_, rfl, ?_⟩
            replace hb : zHd _ := hb x119.toInt h120
            show ZW _ _ _ _ _ _ _ (174, [some (.ref 2), some (.int 4), some (.int (-13)), some (.int x119), some (.int u130_4), some (.int u130_5)], [], M112)
            refine w_gt dX5_readSum_174 (t := 4) rfl ?_
            obtain ⟨m, hm, hI⟩ := hb
            exact (ih m hm).1 M112 (-13) x119 (some (.int u130_4)) (some (.int u130_5)) hJ118 (by have := zt_m13; omega) (by have := zt_m13; omega) (by omega) (by omega) hI
          · skip
            replace hb : zHd _ := hb.2 h111
            refine w_ieq_t dX5_readSum_150 (t := 158) rfl (by omega) ?_
            refine w_ic dX5_readSum_158 zi_0 ?_
            refine w_lo (ml' := [some (.ref 2), some (.int 4), some (.int 0), some (.int v130_3), some (.int u130_4), some (.int u130_5)]) dX5_readSum_159 rfl rfl rfl rfl ?_
            refine w_lo dX5_readSum_160 rfl rfl rfl rfl ?_
            refine w_ine_f dX5_readSum_161 (t := 167) rfl (by have := zt_0; omega) ?_
            refine w_gt dX5_readSum_164 (t := 177) rfl ?_
            refine w_ic dX5_readSum_177 zi_1 ?_
            refine w_en dX5_readSum_178 rfl ?_
            exact ⟨_, _, rfl, (by have := zt_1; omega), (by have := zt_1; omega), hJ110, hb⟩
  have hb : zHd _ := hbE
  show ZW _ _ _ _ _ _ _ (0, [some (.ref 2), some (.int 4), none, none, none, none], [], M0)
  refine w_ic dX5_readSum_0 zi_0 ?_
  refine w_lo (ml' := [some (.ref 2), some (.int 4), some (.int 0), none, none, none]) dX5_readSum_1 rfl rfl rfl rfl ?_
  refine w_ic dX5_readSum_2 zi_0 ?_
  refine w_lo (ml' := [some (.ref 2), some (.int 4), some (.int 0), some (.int 0), none, none]) dX5_readSum_3 rfl rfl rfl rfl ?_
  obtain ⟨m, hI⟩ := hb
  exact (main m).1 M0 0 0 none none hJ0 (by have := zt_0; omega) (by have := zt_0; omega) (by have := zt_0; omega) (by have := zt_0; omega) hI
set_option maxRecDepth 100000 in
theorem u_1298_c3 {X : List Int32} {d N : Nat} {M0 : zM}  (hN : N ≤ 600) (hB0 : zB N M0) {Q : Int → zF → Prop} (hb : b_1298_c3 (zi M0) Q) : ZV X (d + 12) 1298 [.ref 2, .int 3] M0 (zRI N [(2, 3, 0), (2, 3, 1), (20, 21, 1), (41, 42, 1), (21, 22, 1000), (42, 43, 1000), (2, 3, 7)] M0 (0) (1) (fun v M' => Q v.toInt (zi M'))) := by
  have hJ0 : zJ N [(2, 3, 0), (2, 3, 1), (20, 21, 1), (41, 42, 1), (21, 22, 1000), (42, 43, 1000), (2, 3, 7)] M0 M0 := zJ_refl hB0
  refine ZV.of (ini := false) rfl (Nat.le_of_ble_eq_true rfl) (by decide +kernel) ?_
  obtain ⟨I73, I85, I99, hbE, hb73, hb85, hb99⟩ := hb
  replace hbE : zHd _ := hbE
  replace hb73 : zHd _ := hb73
  replace hb85 : zHd _ := hb85
  replace hb99 : zHd _ := hb99
  have main : ∀ n : Nat,
      (∀ (M : zM) (v73_2 : Int32) (o73_3 : Option Value), zJ N [(2, 3, 0), (2, 3, 1), (20, 21, 1), (41, 42, 1), (21, 22, 1000), (42, 43, 1000), (2, 3, 7)] M0 M → ((-1 : Int) ≤ v73_2.toInt) → (v73_2.toInt ≤ 26) → I73 n (zi M) v73_2.toInt → ZW X (d + 11) 5 false (some .boolean) cX5_readPart (zRI N [(2, 3, 0), (2, 3, 1), (20, 21, 1), (41, 42, 1), (21, 22, 1000), (42, 43, 1000), (2, 3, 7)] M0 (0) (1) (fun v M' => Q v.toInt (zi M'))) (73, [some (.ref 2), some (.int 3), some (.int v73_2), o73_3], [], M)) ∧
      (∀ (M : zM) (v85_2 : Int32) (o85_3 : Option Value), zJ N [(2, 3, 0), (2, 3, 1), (20, 21, 1), (41, 42, 1), (21, 22, 1000), (42, 43, 1000), (2, 3, 7)] M0 M → ((25 : Int) ≤ v85_2.toInt) → (v85_2.toInt ≤ 26) → I85 n (zi M) v85_2.toInt → ZW X (d + 11) 5 false (some .boolean) cX5_readPart (zRI N [(2, 3, 0), (2, 3, 1), (20, 21, 1), (41, 42, 1), (21, 22, 1000), (42, 43, 1000), (2, 3, 7)] M0 (0) (1) (fun v M' => Q v.toInt (zi M'))) (85, [some (.ref 2), some (.int 3), some (.int v85_2), o85_3], [], M)) ∧
      (∀ (M : zM) (v99_2 : Int32) (v99_3 : Int32), zJ N [(2, 3, 0), (2, 3, 1), (20, 21, 1), (41, 42, 1), (21, 22, 1000), (42, 43, 1000), (2, 3, 7)] M0 M → ((-1 : Int) ≤ v99_2.toInt) → (v99_2.toInt ≤ 26) → ((0 : Int) ≤ v99_3.toInt) → (v99_3.toInt ≤ 1) → I99 n (zi M) v99_2.toInt v99_3.toInt → ZW X (d + 11) 5 false (some .boolean) cX5_readPart (zRI N [(2, 3, 0), (2, 3, 1), (20, 21, 1), (41, 42, 1), (21, 22, 1000), (42, 43, 1000), (2, 3, 7)] M0 (0) (1) (fun v M' => Q v.toInt (zi M'))) (99, [some (.ref 2), some (.int 3), some (.int v99_2), some (.int v99_3)], [], M)) := by
    intro n
    induction n using Nat.strongRecOn with
    | _ n ih =>
      refine ⟨?_, ?_, ?_⟩
      · intro M v73_2 o73_3 hJ v73_20 v73_21 hI
        have hb : zHd _ := hb73 n (zi M) v73_2.toInt (zi_fr hJ.2) v73_20 v73_21 hI
        refine w_lo dX5_readPart_73 rfl rfl rfl rfl ?_
        refine w_bi dX5_readPart_74 (c := 25) (by decide) ?_
        rcases Int.decEq v73_2.toInt (25 : Int) with h1 | h1
        · skip
          replace hb : zHd _ := hb.1 h1
          refine w_ceq_f dX5_readPart_76 (t := 85) rfl (by have := zt_25; omega) ?_
          refine w_lo dX5_readPart_79 rfl rfl rfl rfl ?_
          refine w_bi dX5_readPart_80 (c := 26) (by decide) ?_
          rcases Int.decEq v73_2.toInt (26 : Int) with h2 | h2
          · skip
            replace hb : zHd _ := hb.1 h2
            refine w_cne_t dX5_readPart_82 (t := 89) rfl (by have := zt_26; omega) ?_
            refine w_ic dX5_readPart_89 zi_0 ?_
            refine w_lo (ml' := [some (.ref 2), some (.int 3), some (.int v73_2), some (.int 0)]) dX5_readPart_90 rfl rfl rfl rfl ?_
            refine w_lo dX5_readPart_91 rfl rfl rfl rfl ?_
            refine w_ieq_t dX5_readPart_92 (t := 99) rfl (by have := zt_0; omega) ?_
            obtain ⟨m, hm, hI⟩ := hb
            exact (ih m hm).2.2 M v73_2 0 hJ (by omega) (by omega) (by have := zt_0; omega) (by have := zt_0; omega) hI
          · skip
            replace hb : zHd _ := hb.2 h2
            refine w_cne_f dX5_readPart_82 (t := 89) rfl (by have := zt_26; omega) ?_
            obtain ⟨m, hm, hI⟩ := hb
            exact (ih m hm).2.1 M v73_2 o73_3 hJ (by omega) (by omega) hI
        · skip
          replace hb : zHd _ := hb.2 h1
          refine w_ceq_t dX5_readPart_76 (t := 85) rfl (by have := zt_25; omega) ?_
          obtain ⟨m, hm, hI⟩ := hb
          exact (ih m hm).2.1 M v73_2 o73_3 hJ (by omega) (by omega) hI
      · intro M v85_2 o85_3 hJ v85_20 v85_21 hI
        have hb : zHd _ := hb85 n (zi M) v85_2.toInt (zi_fr hJ.2) v85_20 v85_21 hI
        refine w_ic dX5_readPart_85 zi_1 ?_
        refine w_gt dX5_readPart_86 (t := 90) rfl ?_
        refine w_lo (ml' := [some (.ref 2), some (.int 3), some (.int v85_2), some (.int 1)]) dX5_readPart_90 rfl rfl rfl rfl ?_
        refine w_lo dX5_readPart_91 rfl rfl rfl rfl ?_
        refine w_ieq_f dX5_readPart_92 (t := 99) rfl (by have := zt_1; omega) ?_
        refine w_lo dX5_readPart_95 rfl rfl rfl rfl ?_
        refine w_iv dX5_readPart_96 rfl rfl (As := []) rfl rfl hJ.1.1 zs_2 (Nat.le_of_ble_eq_true rfl) ?_
        obtain ⟨P5, hp6, hb⟩ := hb
        replace hb : zHd _ := hb
        refine ZV.imp (u_1289 hN hJ.1 hp6) ?_
        rintro _ ⟨M3, rfl, hJ4, hq7⟩
        replace hb : zHd _ := hb  (zi M3) (zi_fr hJ4.2) hq7
        have hJ9 := zJ_trans hJ hJ4 (zSub_cons (fun _ _ h h' hk => zIR_s (zIR_s (zIR_s (zIR_s (zIR_s (zIR_s (zIR_e (by omega) (by omega) hk))))))) zSub_nil)
        show ZW _ _ _ _ _ _ _ (99, [some (.ref 2), some (.int 3), some (.int v85_2), some (.int 1)], [], M3)
        obtain ⟨m, hm, hI⟩ := hb
        exact (ih m hm).2.2 M3 v85_2 1 hJ9 (by omega) (by omega) (by have := zt_1; omega) (by have := zt_1; omega) hI
      · intro M v99_2 v99_3 hJ v99_20 v99_21 v99_30 v99_31 hI
        have hb : zHd _ := hb99 n (zi M) v99_2.toInt v99_3.toInt (zi_fr hJ.2) v99_20 v99_21 v99_30 v99_31 hI
        refine w_lo dX5_readPart_99 rfl rfl rfl rfl ?_
        refine w_bi dX5_readPart_100 (c := 40) (by decide) ?_
        refine w_iv dX5_readPart_102 rfl rfl (As := [.int 40]) rfl rfl hJ.1.1 zs_2 (Nat.le_of_ble_eq_true rfl) ?_
        obtain ⟨P12, hp13, hb⟩ := hb
        replace hb : zHd _ := hb
        have hp13c : b_1299 (zi M) (40 : Int32).toInt P12 := by rw [zt_40]; exact hp13
        refine ZV.imp (u_1299 40 (by have := zt_40; omega) (by have := zt_40; omega) hN hJ.1 hp13c) ?_
        rintro _ ⟨x15, M10, rfl, h16, h17, hJ11, hq14⟩
        replace hb : zHd _ := hb x15.toInt h16 h17 (zi M10) (zi_fr hJ11.2) hq14
        have hJ19 := zJ_trans hJ hJ11 zSub_nil
        show ZW _ _ _ _ _ _ _ (105, [some (.ref 2), some (.int 3), some (.int v99_2), some (.int v99_3)], [.int x15], M10)
        rcases Int.decEq x15.toInt (0 : Int) with h20 | h20
        · skip
          replace hb : zHd _ := hb.1 h20
          refine w_ine_t dX5_readPart_105 (t := 114) rfl (by omega) ?_
          refine w_lo dX5_readPart_114 rfl rfl rfl rfl ?_
          refine w_bi dX5_readPart_115 (c := 8) (by decide) ?_
          refine w_clt_t dX5_readPart_117 (t := 126) rfl (by have := zt_3; have := zt_8; omega) ?_
          refine w_lo dX5_readPart_126 rfl rfl rfl rfl ?_
          refine w_iv dX5_readPart_127 rfl rfl (As := []) rfl rfl hJ19.1.1 zs_2 (Nat.le_of_ble_eq_true rfl) ?_
          obtain ⟨P23, hp24, hb⟩ := hb
          replace hb : zHd _ := hb
          refine ZV.imp (u_1289 hN hJ19.1 hp24) ?_
          rintro _ ⟨M21, rfl, hJ22, hq25⟩
          replace hb : zHd _ := hb  (zi M21) (zi_fr hJ22.2) hq25
          have hJ27 := zJ_trans hJ19 hJ22 (zSub_cons (fun _ _ h h' hk => zIR_s (zIR_s (zIR_s (zIR_s (zIR_s (zIR_s (zIR_e (by omega) (by omega) hk))))))) zSub_nil)
          show ZW _ _ _ _ _ _ _ (130, [some (.ref 2), some (.int 3), some (.int v99_2), some (.int v99_3)], [], M21)
          refine w_lo dX5_readPart_130 rfl rfl rfl rfl ?_
          refine w_lo dX5_readPart_131 rfl rfl rfl rfl ?_
          refine w_ic dX5_readPart_132 zi_1 ?_
          refine w_pu (st' := [.int 4, .ref 2]) dX5_readPart_133 rfl rfl ?_
          refine w_iv dX5_readPart_134 rfl rfl (As := [.int 4]) rfl rfl hJ27.1.1 zs_2 (Nat.le_of_ble_eq_true rfl) ?_
          obtain ⟨P30, hp31, hb⟩ := hb
          replace hb : zHd _ := hb
          refine ZV.imp (u_1297_c4 hN hJ27.1 hp31) ?_
          rintro _ ⟨x33, M28, rfl, h34, h35, hJ29, hq32⟩
          replace hb : zHd _ := hb x33.toInt h34 h35 (zi M28) (zi_fr hJ29.2) hq32
          have hJ37 := zJ_trans hJ27 hJ29 (zSub_cons (fun _ _ h h' hk => zIR_e (by omega) (by omega) hk) (zSub_cons (fun _ _ h h' hk => zIR_s (zIR_e (by omega) (by omega) hk)) (zSub_cons (fun _ _ h h' hk => zIR_s (zIR_s (zIR_e (by omega) (by omega) hk))) (zSub_cons (fun _ _ h h' hk => zIR_s (zIR_s (zIR_s (zIR_e (by omega) (by omega) hk)))) (zSub_cons (fun _ _ h h' hk => zIR_s (zIR_s (zIR_s (zIR_s (zIR_a (by omega) (by omega)))))) (zSub_cons (fun _ _ h h' hk => zIR_s (zIR_s (zIR_s (zIR_s (zIR_s (zIR_a (by omega) (by omega))))))) (zSub_cons (fun _ _ h h' hk => zIR_s (zIR_s (zIR_s (zIR_s (zIR_s (zIR_s (zIR_e (by omega) (by omega) hk))))))) zSub_nil)))))))
          show ZW _ _ _ _ _ _ _ (137, [some (.ref 2), some (.int 3), some (.int v99_2), some (.int v99_3)], [.int x33], M28)
          rcases Int.decEq x33.toInt (0 : Int) with h38 | h38
          · skip
            replace hb : zHd _ := hb.1 h38
            refine w_ine_t dX5_readPart_137 (t := 142) rfl (by omega) ?_
            refine w_lo dX5_readPart_142 rfl rfl rfl rfl ?_
            rcases Int.decEq v99_3.toInt (0 : Int) with h39 | h39
            · skip
              replace hb : zHd _ := hb.1 h39
              refine w_ieq_f dX5_readPart_143 (t := 200) rfl (by omega) ?_
              refine w_lo dX5_readPart_146 rfl rfl rfl rfl ?_
              refine w_bi dX5_readPart_147 (c := 44) (by decide) ?_
              refine w_iv dX5_readPart_149 rfl rfl (As := [.int 44]) rfl rfl hJ37.1.1 zs_2 (Nat.le_of_ble_eq_true rfl) ?_
              obtain ⟨P42, hp43, hb⟩ := hb
              replace hb : zHd _ := hb
              have hp43c : b_1299 (zi M28) (44 : Int32).toInt P42 := by rw [zt_44]; exact hp43
              refine ZV.imp (u_1299 44 (by have := zt_44; omega) (by have := zt_44; omega) hN hJ37.1 hp43c) ?_
              rintro _ ⟨x45, M40, rfl, h46, h47, hJ41, hq44⟩
              replace hb : zHd _ := hb x45.toInt h46 h47 (zi M40) (zi_fr hJ41.2) hq44
              have hJ49 := zJ_trans hJ37 hJ41 zSub_nil
              show ZW _ _ _ _ _ _ _ (152, [some (.ref 2), some (.int 3), some (.int v99_2), some (.int v99_3)], [.int x45], M40)
              rcases Int.decEq x45.toInt (0 : Int) with h50 | h50
              · skip
                replace hb : zHd _ := hb.1 h50
                refine w_ine_t dX5_readPart_152 (t := 161) rfl (by omega) ?_
                refine w_lo dX5_readPart_161 rfl rfl rfl rfl ?_
                refine w_iv dX5_readPart_162 rfl rfl (As := []) rfl rfl hJ49.1.1 zs_2 (Nat.le_of_ble_eq_true rfl) ?_
                obtain ⟨P53, hp54, hb⟩ := hb
                replace hb : zHd _ := hb
                refine ZV.imp (u_1289 hN hJ49.1 hp54) ?_
                rintro _ ⟨M51, rfl, hJ52, hq55⟩
                replace hb : zHd _ := hb  (zi M51) (zi_fr hJ52.2) hq55
                have hJ57 := zJ_trans hJ49 hJ52 (zSub_cons (fun _ _ h h' hk => zIR_s (zIR_s (zIR_s (zIR_s (zIR_s (zIR_s (zIR_e (by omega) (by omega) hk))))))) zSub_nil)
                show ZW _ _ _ _ _ _ _ (165, [some (.ref 2), some (.int 3), some (.int v99_2), some (.int v99_3)], [], M51)
                refine w_lo dX5_readPart_165 rfl rfl rfl rfl ?_
                refine w_lo dX5_readPart_166 rfl rfl rfl rfl ?_
                refine w_ic dX5_readPart_167 zi_1 ?_
                refine w_pu (st' := [.int 4, .ref 2]) dX5_readPart_168 rfl rfl ?_
                refine w_iv dX5_readPart_169 rfl rfl (As := [.int 4]) rfl rfl hJ57.1.1 zs_2 (Nat.le_of_ble_eq_true rfl) ?_
                obtain ⟨P60, hp61, hb⟩ := hb
                replace hb : zHd _ := hb
                refine ZV.imp (u_1297_c4 hN hJ57.1 hp61) ?_
                rintro _ ⟨x63, M58, rfl, h64, h65, hJ59, hq62⟩
                replace hb : zHd _ := hb x63.toInt h64 h65 (zi M58) (zi_fr hJ59.2) hq62
                have hJ67 := zJ_trans hJ57 hJ59 (zSub_cons (fun _ _ h h' hk => zIR_e (by omega) (by omega) hk) (zSub_cons (fun _ _ h h' hk => zIR_s (zIR_e (by omega) (by omega) hk)) (zSub_cons (fun _ _ h h' hk => zIR_s (zIR_s (zIR_e (by omega) (by omega) hk))) (zSub_cons (fun _ _ h h' hk => zIR_s (zIR_s (zIR_s (zIR_e (by omega) (by omega) hk)))) (zSub_cons (fun _ _ h h' hk => zIR_s (zIR_s (zIR_s (zIR_s (zIR_a (by omega) (by omega)))))) (zSub_cons (fun _ _ h h' hk => zIR_s (zIR_s (zIR_s (zIR_s (zIR_s (zIR_a (by omega) (by omega))))))) (zSub_cons (fun _ _ h h' hk => zIR_s (zIR_s (zIR_s (zIR_s (zIR_s (zIR_s (zIR_e (by omega) (by omega) hk))))))) zSub_nil)))))))
                show ZW _ _ _ _ _ _ _ (172, [some (.ref 2), some (.int 3), some (.int v99_2), some (.int v99_3)], [.int x63], M58)
                rcases Int.decEq x63.toInt (0 : Int) with h68 | h68
                · skip
                  replace hb : zHd _ := hb.1 h68
                  refine w_ine_t dX5_readPart_172 (t := 177) rfl (by omega) ?_
                  refine w_lo dX5_readPart_177 rfl rfl rfl rfl ?_
                  obtain ⟨b69, f70, h71⟩ := zd_2_8 hJ67.1
                  have h72 := zDm_b h71
                  refine w_gf dX5_readPart_178 rfl hJ67.1.1 zs_2 f70 ?_
                  replace hb : zHd _ := hb b69 (ziR f70) (zDm_or h71)
                  refine w_gf dX5_readPart_181 rfl hJ67.1.1 (zs_1_0 h71) (zr_1_0_15 h71 hJ67.1) ?_
                  refine w_lo dX5_readPart_184 rfl rfl rfl rfl ?_
                  refine w_bi dX5_readPart_185 (c := 25) (by decide) ?_
                  rcases Int.decEq v99_2.toInt (25 : Int) with h73 | h73
                  · skip
                    replace hb : zHd _ := hb.1 h73
                    refine w_cne_t dX5_readPart_187 (t := 195) rfl (by have := zt_25; omega) ?_
                    refine w_bi dX5_readPart_195 (c := (-20)) (by decide) ?_
                    refine w_iv dX5_readPart_197 rfl rfl (As := [.int (-20)]) rfl rfl hJ67.1.1 (zs_1_13 h71) (Nat.le_of_ble_eq_true rfl) ?_
                    obtain ⟨P76, hp77, hb⟩ := hb
                    replace hb : zHd _ := hb
                    have hp77c : b_515 (b69 + 13) (zi M58) ((-20) : Int32).toInt P76 := by rw [zt_m20]; exact hp77
                    refine ZV.imp (u_515 (b69 + 13) (zLw_of h71) (-20) hN hJ67.1 hp77c) ?_
                    rintro _ ⟨M74, rfl, hJ75, hq78⟩
                    replace hb : zHd _ := hb  (zi M74) (zi_fr hJ75.2) hq78
                    have hJ80 := zJ_trans hJ67 hJ75 (zSub_cons (fun _ _ h h' hk => ((zDm_or h71).elim (fun e => zIR_s (zIR_s (zIR_e (by omega) (by omega) hk))) (fun e => zIR_s (zIR_s (zIR_s (zIR_e (by omega) (by omega) hk)))))) (zSub_cons (fun _ _ h h' hk => ((zDm_or h71).elim (fun e => zIR_s (zIR_s (zIR_s (zIR_s (zIR_a (by omega) (by omega)))))) (fun e => zIR_s (zIR_s (zIR_s (zIR_s (zIR_s (zIR_a (by omega) (by omega))))))))) zSub_nil))
                    show ZW _ _ _ _ _ _ _ (200, [some (.ref 2), some (.int 3), some (.int v99_2), some (.int v99_3)], [], M74)
                    refine w_lo dX5_readPart_200 rfl rfl rfl rfl ?_
                    refine w_bi dX5_readPart_201 (c := 41) (by decide) ?_
                    refine w_iv dX5_readPart_203 rfl rfl (As := [.int 41]) rfl rfl hJ80.1.1 zs_2 (Nat.le_of_ble_eq_true rfl) ?_
                    obtain ⟨P83, hp84, hb⟩ := hb
                    replace hb : zHd _ := hb
                    have hp84c : b_1299 (zi M74) (41 : Int32).toInt P83 := by rw [zt_41]; exact hp84
                    refine ZV.imp (u_1299 41 (by have := zt_41; omega) (by have := zt_41; omega) hN hJ80.1 hp84c) ?_
                    rintro _ ⟨x86, M81, rfl, h87, h88, hJ82, hq85⟩
                    replace hb : zHd _ := hb x86.toInt h87 h88 (zi M81) (zi_fr hJ82.2) hq85
                    have hJ90 := zJ_trans hJ80 hJ82 zSub_nil
                    show ZW _ _ _ _ _ _ _ (206, [some (.ref 2), some (.int 3), some (.int v99_2), some (.int v99_3)], [.int x86], M81)
                    rcases Int.decEq x86.toInt (0 : Int) with h91 | h91
                    · skip
                      replace hb : zHd _ := hb.1 h91
                      refine w_ine_t dX5_readPart_206 (t := 215) rfl (by omega) ?_
                      refine w_lo dX5_readPart_215 rfl rfl rfl rfl ?_
                      refine w_iv dX5_readPart_216 rfl rfl (As := []) rfl rfl hJ90.1.1 zs_2 (Nat.le_of_ble_eq_true rfl) ?_
                      obtain ⟨P94, hp95, hb⟩ := hb
                      replace hb : zHd _ := hb
                      refine ZV.imp (u_1289 hN hJ90.1 hp95) ?_
                      rintro _ ⟨M92, rfl, hJ93, hq96⟩
                      replace hb : zHd _ := hb  (zi M92) (zi_fr hJ93.2) hq96
                      have hJ98 := zJ_trans hJ90 hJ93 (zSub_cons (fun _ _ h h' hk => zIR_s (zIR_s (zIR_s (zIR_s (zIR_s (zIR_s (zIR_e (by omega) (by omega) hk))))))) zSub_nil)
                      show ZW _ _ _ _ _ _ _ (219, [some (.ref 2), some (.int 3), some (.int v99_2), some (.int v99_3)], [], M92)
                      refine w_ic dX5_readPart_219 zi_1 ?_
                      refine w_en dX5_readPart_220 rfl ?_
                      exact ⟨_, _, rfl, (by have := zt_1; omega), (by have := zt_1; omega), hJ98, hb⟩
                    · skip
                      replace hb : zHd _ := hb.2 h91
                      refine w_ine_f dX5_readPart_206 (t := 215) rfl (by omega) ?_
                      refine w_lo dX5_readPart_209 rfl rfl rfl rfl ?_
                      refine w_ic dX5_readPart_210 zi_1 ?_
                      refine w_iv dX5_readPart_211 rfl rfl (As := [.int 1]) rfl rfl hJ90.1.1 zs_2 (Nat.le_of_ble_eq_true rfl) ?_
                      obtain ⟨P101, hp102, hb⟩ := hb
                      replace hb : zHd _ := hb
                      have hp102c : b_1286 (zi M81) (1 : Int32).toInt P101 := by rw [zt_1]; exact hp102
                      refine ZV.imp (u_1286 1 (by have := zt_1; omega) (by have := zt_1; omega) hN hJ90.1 hp102c) ?_
                      rintro _ ⟨x104, M99, rfl, h105, h106, hJ100, hq103⟩
                      replace hb : zHd _ := hb x104.toInt h105 h106 (zi M99) (zi_fr hJ100.2) hq103
                      have hJ108 := zJ_trans hJ90 hJ100 (zSub_cons (fun _ _ h h' hk => zIR_e (by omega) (by omega) hk) (zSub_cons (fun _ _ h h' hk => zIR_s (zIR_e (by omega) (by omega) hk)) zSub_nil))
                      show ZW _ _ _ _ _ _ _ (214, [some (.ref 2), some (.int 3), some (.int v99_2), some (.int v99_3)], [.int x104], M99)
                      refine w_eni dX5_readPart_214 rfl (znb (by omega) (by omega)) ?_
                      exact ⟨_, _, rfl, (by omega), (by omega), hJ108, hb⟩
                  · skip
                    replace hb : zHd _ := hb.2 h73
                    refine w_cne_f dX5_readPart_187 (t := 195) rfl (by have := zt_25; omega) ?_
                    refine w_bi dX5_readPart_190 (c := (-19)) (by decide) ?_
                    refine w_gt dX5_readPart_192 (t := 197) rfl ?_
                    refine w_iv dX5_readPart_197 rfl rfl (As := [.int (-19)]) rfl rfl hJ67.1.1 (zs_1_13 h71) (Nat.le_of_ble_eq_true rfl) ?_
                    obtain ⟨P111, hp112, hb⟩ := hb
                    replace hb : zHd _ := hb
                    have hp112c : b_515 (b69 + 13) (zi M58) ((-19) : Int32).toInt P111 := by rw [zt_m19]; exact hp112
                    refine ZV.imp (u_515 (b69 + 13) (zLw_of h71) (-19) hN hJ67.1 hp112c) ?_
                    rintro _ ⟨M109, rfl, hJ110, hq113⟩
                    replace hb : zHd _ := hb  (zi M109) (zi_fr hJ110.2) hq113
                    have hJ115 := zJ_trans hJ67 hJ110 (zSub_cons (fun _ _ h h' hk => ((zDm_or h71).elim (fun e => zIR_s (zIR_s (zIR_e (by omega) (by omega) hk))) (fun e => zIR_s (zIR_s (zIR_s (zIR_e (by omega) (by omega) hk)))))) (zSub_cons (fun _ _ h h' hk => ((zDm_or h71).elim (fun e => zIR_s (zIR_s (zIR_s (zIR_s (zIR_a (by omega) (by omega)))))) (fun e => zIR_s (zIR_s (zIR_s (zIR_s (zIR_s (zIR_a (by omega) (by omega))))))))) zSub_nil))
                    show ZW _ _ _ _ _ _ _ (200, [some (.ref 2), some (.int 3), some (.int v99_2), some (.int v99_3)], [], M109)
                    refine w_lo dX5_readPart_200 rfl rfl rfl rfl ?_
                    refine w_bi dX5_readPart_201 (c := 41) (by decide) ?_
                    refine w_iv dX5_readPart_203 rfl rfl (As := [.int 41]) rfl rfl hJ115.1.1 zs_2 (Nat.le_of_ble_eq_true rfl) ?_
                    obtain ⟨P118, hp119, hb⟩ := hb
                    replace hb : zHd _ := hb
                    have hp119c : b_1299 (zi M109) (41 : Int32).toInt P118 := by rw [zt_41]; exact hp119
                    refine ZV.imp (u_1299 41 (by have := zt_41; omega) (by have := zt_41; omega) hN hJ115.1 hp119c) ?_
                    rintro _ ⟨x121, M116, rfl, h122, h123, hJ117, hq120⟩
                    replace hb : zHd _ := hb x121.toInt h122 h123 (zi M116) (zi_fr hJ117.2) hq120
                    have hJ125 := zJ_trans hJ115 hJ117 zSub_nil
                    show ZW _ _ _ _ _ _ _ (206, [some (.ref 2), some (.int 3), some (.int v99_2), some (.int v99_3)], [.int x121], M116)
                    rcases Int.decEq x121.toInt (0 : Int) with h126 | h126
                    · skip
                      replace hb : zHd _ := hb.1 h126
                      refine w_ine_t dX5_readPart_206 (t := 215) rfl (by omega) ?_
                      refine w_lo dX5_readPart_215 rfl rfl rfl rfl ?_
                      refine w_iv dX5_readPart_216 rfl rfl (As := []) rfl rfl hJ125.1.1 zs_2 (Nat.le_of_ble_eq_true rfl) ?_
                      obtain ⟨P129, hp130, hb⟩ := hb
                      replace hb : zHd _ := hb
                      refine ZV.imp (u_1289 hN hJ125.1 hp130) ?_
                      rintro _ ⟨M127, rfl, hJ128, hq131⟩
                      replace hb : zHd _ := hb  (zi M127) (zi_fr hJ128.2) hq131
                      have hJ133 := zJ_trans hJ125 hJ128 (zSub_cons (fun _ _ h h' hk => zIR_s (zIR_s (zIR_s (zIR_s (zIR_s (zIR_s (zIR_e (by omega) (by omega) hk))))))) zSub_nil)
                      show ZW _ _ _ _ _ _ _ (219, [some (.ref 2), some (.int 3), some (.int v99_2), some (.int v99_3)], [], M127)
                      refine w_ic dX5_readPart_219 zi_1 ?_
                      refine w_en dX5_readPart_220 rfl ?_
                      exact ⟨_, _, rfl, (by have := zt_1; omega), (by have := zt_1; omega), hJ133, hb⟩
                    · skip
                      replace hb : zHd _ := hb.2 h126
                      refine w_ine_f dX5_readPart_206 (t := 215) rfl (by omega) ?_
                      refine w_lo dX5_readPart_209 rfl rfl rfl rfl ?_
                      refine w_ic dX5_readPart_210 zi_1 ?_
                      refine w_iv dX5_readPart_211 rfl rfl (As := [.int 1]) rfl rfl hJ125.1.1 zs_2 (Nat.le_of_ble_eq_true rfl) ?_
                      obtain ⟨P136, hp137, hb⟩ := hb
                      replace hb : zHd _ := hb
                      have hp137c : b_1286 (zi M116) (1 : Int32).toInt P136 := by rw [zt_1]; exact hp137
                      refine ZV.imp (u_1286 1 (by have := zt_1; omega) (by have := zt_1; omega) hN hJ125.1 hp137c) ?_
                      rintro _ ⟨x139, M134, rfl, h140, h141, hJ135, hq138⟩
                      replace hb : zHd _ := hb x139.toInt h140 h141 (zi M134) (zi_fr hJ135.2) hq138
                      have hJ143 := zJ_trans hJ125 hJ135 (zSub_cons (fun _ _ h h' hk => zIR_e (by omega) (by omega) hk) (zSub_cons (fun _ _ h h' hk => zIR_s (zIR_e (by omega) (by omega) hk)) zSub_nil))
                      show ZW _ _ _ _ _ _ _ (214, [some (.ref 2), some (.int 3), some (.int v99_2), some (.int v99_3)], [.int x139], M134)
                      refine w_eni dX5_readPart_214 rfl (znb (by omega) (by omega)) ?_
                      exact ⟨_, _, rfl, (by omega), (by omega), hJ143, hb⟩
                · skip
                  replace hb : zHd _ := hb.2 h68
                  refine w_ine_f dX5_readPart_172 (t := 177) rfl (by omega) ?_
                  refine w_ic dX5_readPart_175 zi_0 ?_
                  refine w_en dX5_readPart_176 rfl ?_
                  exact ⟨_, _, rfl, (by have := zt_0; omega), (by have := zt_0; omega), hJ67, hb⟩
              · skip
                replace hb : zHd _ := hb.2 h50
                refine w_ine_f dX5_readPart_152 (t := 161) rfl (by omega) ?_
                refine w_lo dX5_readPart_155 rfl rfl rfl rfl ?_
                refine w_ic dX5_readPart_156 zi_1 ?_
                refine w_iv dX5_readPart_157 rfl rfl (As := [.int 1]) rfl rfl hJ49.1.1 zs_2 (Nat.le_of_ble_eq_true rfl) ?_
                obtain ⟨P146, hp147, hb⟩ := hb
                replace hb : zHd _ := hb
                have hp147c : b_1286 (zi M40) (1 : Int32).toInt P146 := by rw [zt_1]; exact hp147
                refine ZV.imp (u_1286 1 (by have := zt_1; omega) (by have := zt_1; omega) hN hJ49.1 hp147c) ?_
                rintro _ ⟨x149, M144, rfl, h150, h151, hJ145, hq148⟩
                replace hb : zHd _ := hb x149.toInt h150 h151 (zi M144) (zi_fr hJ145.2) hq148
                have hJ153 := zJ_trans hJ49 hJ145 (zSub_cons (fun _ _ h h' hk => zIR_e (by omega) (by omega) hk) (zSub_cons (fun _ _ h h' hk => zIR_s (zIR_e (by omega) (by omega) hk)) zSub_nil))
                show ZW _ _ _ _ _ _ _ (160, [some (.ref 2), some (.int 3), some (.int v99_2), some (.int v99_3)], [.int x149], M144)
                refine w_eni dX5_readPart_160 rfl (znb (by omega) (by omega)) ?_
                exact ⟨_, _, rfl, (by omega), (by omega), hJ153, hb⟩
            · skip
              replace hb : zHd _ := hb.2 h39
              refine w_ieq_t dX5_readPart_143 (t := 200) rfl (by omega) ?_
              refine w_lo dX5_readPart_200 rfl rfl rfl rfl ?_
              refine w_bi dX5_readPart_201 (c := 41) (by decide) ?_
              refine w_iv dX5_readPart_203 rfl rfl (As := [.int 41]) rfl rfl hJ37.1.1 zs_2 (Nat.le_of_ble_eq_true rfl) ?_
              obtain ⟨P156, hp157, hb⟩ := hb
              replace hb : zHd _ := hb
              have hp157c : b_1299 (zi M28) (41 : Int32).toInt P156 := by rw [zt_41]; exact hp157
              refine ZV.imp (u_1299 41 (by have := zt_41; omega) (by have := zt_41; omega) hN hJ37.1 hp157c) ?_
              rintro _ ⟨x159, M154, rfl, h160, h161, hJ155, hq158⟩
              replace hb : zHd _ := hb x159.toInt h160 h161 (zi M154) (zi_fr hJ155.2) hq158
              have hJ163 := zJ_trans hJ37 hJ155 zSub_nil
              show ZW _ _ _ _ _ _ _ (206, [some (.ref 2), some (.int 3), some (.int v99_2), some (.int v99_3)], [.int x159], M154)
              rcases Int.decEq x159.toInt (0 : Int) with h164 | h164
              · skip
                replace hb : zHd _ := hb.1 h164
                refine w_ine_t dX5_readPart_206 (t := 215) rfl (by omega) ?_
                refine w_lo dX5_readPart_215 rfl rfl rfl rfl ?_
                refine w_iv dX5_readPart_216 rfl rfl (As := []) rfl rfl hJ163.1.1 zs_2 (Nat.le_of_ble_eq_true rfl) ?_
                obtain ⟨P167, hp168, hb⟩ := hb
                replace hb : zHd _ := hb
                refine ZV.imp (u_1289 hN hJ163.1 hp168) ?_
                rintro _ ⟨M165, rfl, hJ166, hq169⟩
                replace hb : zHd _ := hb  (zi M165) (zi_fr hJ166.2) hq169
                have hJ171 := zJ_trans hJ163 hJ166 (zSub_cons (fun _ _ h h' hk => zIR_s (zIR_s (zIR_s (zIR_s (zIR_s (zIR_s (zIR_e (by omega) (by omega) hk))))))) zSub_nil)
                show ZW _ _ _ _ _ _ _ (219, [some (.ref 2), some (.int 3), some (.int v99_2), some (.int v99_3)], [], M165)
                refine w_ic dX5_readPart_219 zi_1 ?_
                refine w_en dX5_readPart_220 rfl ?_
                exact ⟨_, _, rfl, (by have := zt_1; omega), (by have := zt_1; omega), hJ171, hb⟩
              · skip
                replace hb : zHd _ := hb.2 h164
                refine w_ine_f dX5_readPart_206 (t := 215) rfl (by omega) ?_
                refine w_lo dX5_readPart_209 rfl rfl rfl rfl ?_
                refine w_ic dX5_readPart_210 zi_1 ?_
                refine w_iv dX5_readPart_211 rfl rfl (As := [.int 1]) rfl rfl hJ163.1.1 zs_2 (Nat.le_of_ble_eq_true rfl) ?_
                obtain ⟨P174, hp175, hb⟩ := hb
                replace hb : zHd _ := hb
                have hp175c : b_1286 (zi M154) (1 : Int32).toInt P174 := by rw [zt_1]; exact hp175
                refine ZV.imp (u_1286 1 (by have := zt_1; omega) (by have := zt_1; omega) hN hJ163.1 hp175c) ?_
                rintro _ ⟨x177, M172, rfl, h178, h179, hJ173, hq176⟩
                replace hb : zHd _ := hb x177.toInt h178 h179 (zi M172) (zi_fr hJ173.2) hq176
                have hJ181 := zJ_trans hJ163 hJ173 (zSub_cons (fun _ _ h h' hk => zIR_e (by omega) (by omega) hk) (zSub_cons (fun _ _ h h' hk => zIR_s (zIR_e (by omega) (by omega) hk)) zSub_nil))
                show ZW _ _ _ _ _ _ _ (214, [some (.ref 2), some (.int 3), some (.int v99_2), some (.int v99_3)], [.int x177], M172)
                refine w_eni dX5_readPart_214 rfl (znb (by omega) (by omega)) ?_
                exact ⟨_, _, rfl, (by omega), (by omega), hJ181, hb⟩
          · skip
            replace hb : zHd _ := hb.2 h38
            refine w_ine_f dX5_readPart_137 (t := 142) rfl (by omega) ?_
            refine w_ic dX5_readPart_140 zi_0 ?_
            refine w_en dX5_readPart_141 rfl ?_
            exact ⟨_, _, rfl, (by have := zt_0; omega), (by have := zt_0; omega), hJ37, hb⟩
        · skip
          replace hb : zHd _ := hb.2 h20
          refine w_ine_f dX5_readPart_105 (t := 114) rfl (by omega) ?_
          refine w_lo dX5_readPart_108 rfl rfl rfl rfl ?_
          refine w_ic dX5_readPart_109 zi_1 ?_
          refine w_iv dX5_readPart_110 rfl rfl (As := [.int 1]) rfl rfl hJ19.1.1 zs_2 (Nat.le_of_ble_eq_true rfl) ?_
          obtain ⟨P184, hp185, hb⟩ := hb
          replace hb : zHd _ := hb
          have hp185c : b_1286 (zi M10) (1 : Int32).toInt P184 := by rw [zt_1]; exact hp185
          refine ZV.imp (u_1286 1 (by have := zt_1; omega) (by have := zt_1; omega) hN hJ19.1 hp185c) ?_
          rintro _ ⟨x187, M182, rfl, h188, h189, hJ183, hq186⟩
          replace hb : zHd _ := hb x187.toInt h188 h189 (zi M182) (zi_fr hJ183.2) hq186
          have hJ191 := zJ_trans hJ19 hJ183 (zSub_cons (fun _ _ h h' hk => zIR_e (by omega) (by omega) hk) (zSub_cons (fun _ _ h h' hk => zIR_s (zIR_e (by omega) (by omega) hk)) zSub_nil))
          show ZW _ _ _ _ _ _ _ (113, [some (.ref 2), some (.int 3), some (.int v99_2), some (.int v99_3)], [.int x187], M182)
          refine w_eni dX5_readPart_113 rfl (znb (by omega) (by omega)) ?_
          exact ⟨_, _, rfl, (by omega), (by omega), hJ191, hb⟩
  have hb : zHd _ := hbE
  show ZW _ _ _ _ _ _ _ (0, [some (.ref 2), some (.int 3), none, none], [], M0)
  refine w_lo dX5_readPart_0 rfl rfl rfl rfl ?_
  refine w_gf dX5_readPart_1 rfl hJ0.1.1 zs_2 (zr_2_3 hJ0.1) ?_
  refine w_lo dX5_readPart_4 rfl rfl rfl rfl ?_
  refine w_gfi dX5_readPart_5 rfl hJ0.1 zs_2 (Nat.le_of_ble_eq_true rfl) zo_2_7 ?_
  intro x192 f193 h194 h195
  replace hb : zHd _ := hb x192.toInt (ziE f193) h194 h195
  refine w_iai dX5_readPart_8 hJ0.1 zs_4 (by omega) (by omega) zu_4 ?_
  intro x199 f196 h197 h198
  replace hb : zHd _ := hb x199.toInt (ziEk f196 rfl) h197 h198
  refine w_ic dX5_readPart_9 zi_4 ?_
  rcases Int.decEq x199.toInt (4 : Int) with h200 | h200
  · skip
    replace hb : zHd _ := hb.1 h200
    refine w_cne_t dX5_readPart_10 (t := 38) rfl (by have := zt_4; omega) ?_
    refine w_lo dX5_readPart_38 rfl rfl rfl rfl ?_
    refine w_iv dX5_readPart_39 rfl rfl (As := []) rfl rfl hJ0.1.1 zs_2 (Nat.le_of_ble_eq_true rfl) ?_
    obtain ⟨P203, hp204, hb⟩ := hb
    replace hb : zHd _ := hb
    refine ZV.imp (u_1287 hN hJ0.1 hp204) ?_
    rintro _ ⟨x206, M201, rfl, h207, h208, hJ202, hq205⟩
    replace hb : zHd _ := hb x206.toInt h207 h208 (zi M201) (zi_fr hJ202.2) hq205
    have hJ210 := zJ_trans hJ0 hJ202 zSub_nil
    show ZW _ _ _ _ _ _ _ (42, [some (.ref 2), some (.int 3), none, none], [.int x206], M201)
    refine w_lo (ml' := [some (.ref 2), some (.int 3), some (.int x206), none]) dX5_readPart_42 rfl rfl rfl rfl ?_
    refine w_lo dX5_readPart_43 rfl rfl rfl rfl ?_
    refine w_ic dX5_readPart_44 zi_m1 ?_
    rcases Int.decEq x206.toInt (-1 : Int) with h211 | h211
    · skip
      replace hb : zHd _ := hb.1 h211
      refine w_ceq_f dX5_readPart_45 (t := 73) rfl (by have := zt_m1; omega) ?_
      refine w_lo dX5_readPart_48 rfl rfl rfl rfl ?_
      refine w_bi dX5_readPart_49 (c := 7) (by decide) ?_
      rcases zcut x206.toInt (7 : Int) with h212 | h212
      · skip
        replace hb : zHd _ := hb.1 h212
        refine w_cge_f dX5_readPart_51 (t := 73) rfl (by have := zt_7; omega) ?_
        refine w_lo dX5_readPart_54 rfl rfl rfl rfl ?_
        obtain ⟨b213, f214, h215⟩ := zd_2_8 hJ210.1
        have h216 := zDm_b h215
        refine w_gf dX5_readPart_55 rfl hJ210.1.1 zs_2 f214 ?_
        replace hb : zHd _ := hb b213 (ziR f214) (zDm_or h215)
        refine w_gf dX5_readPart_58 rfl hJ210.1.1 (zs_1_0 h215) (zr_1_0_15 h215 hJ210.1) ?_
        refine w_ic dX5_readPart_61 zi_m1 ?_
        refine w_lo dX5_readPart_62 rfl rfl rfl rfl ?_
        refine w_sub dX5_readPart_63 (by have := zt_m1; omega) ?_
        intro x217 h218
        have := zt_m1
        replace hb : zHd _ := hb x217.toInt (by have := zt_m1; omega)
        refine w_iv dX5_readPart_64 rfl rfl (As := [.int x217]) rfl rfl hJ210.1.1 (zs_1_13 h215) (Nat.le_of_ble_eq_true rfl) ?_
        obtain ⟨P221, hp222, hb⟩ := hb
        replace hb : zHd _ := hb
        refine ZV.imp (u_515 (b213 + 13) (zLw_of h215) x217 hN hJ210.1 hp222) ?_
        rintro _ ⟨M219, rfl, hJ220, hq223⟩
        replace hb : zHd _ := hb  (zi M219) (zi_fr hJ220.2) hq223
        have hJ225 := zJ_trans hJ210 hJ220 (zSub_cons (fun _ _ h h' hk => ((zDm_or h215).elim (fun e => zIR_s (zIR_s (zIR_e (by omega) (by omega) hk))) (fun e => zIR_s (zIR_s (zIR_s (zIR_e (by omega) (by omega) hk)))))) (zSub_cons (fun _ _ h h' hk => ((zDm_or h215).elim (fun e => zIR_s (zIR_s (zIR_s (zIR_s (zIR_a (by omega) (by omega)))))) (fun e => zIR_s (zIR_s (zIR_s (zIR_s (zIR_s (zIR_a (by omega) (by omega))))))))) zSub_nil))
        show ZW _ _ _ _ _ _ _ (67, [some (.ref 2), some (.int 3), some (.int x206), none], [], M219)
        refine w_lo dX5_readPart_67 rfl rfl rfl rfl ?_
        refine w_iv dX5_readPart_68 rfl rfl (As := []) rfl rfl hJ225.1.1 zs_2 (Nat.le_of_ble_eq_true rfl) ?_
        obtain ⟨P228, hp229, hb⟩ := hb
        replace hb : zHd _ := hb
        refine ZV.imp (u_1289 hN hJ225.1 hp229) ?_
        rintro _ ⟨M226, rfl, hJ227, hq230⟩
        replace hb : zHd _ := hb  (zi M226) (zi_fr hJ227.2) hq230
        have hJ232 := zJ_trans hJ225 hJ227 (zSub_cons (fun _ _ h h' hk => zIR_s (zIR_s (zIR_s (zIR_s (zIR_s (zIR_s (zIR_e (by omega) (by omega) hk))))))) zSub_nil)
        show ZW _ _ _ _ _ _ _ (71, [some (.ref 2), some (.int 3), some (.int x206), none], [], M226)
        refine w_ic dX5_readPart_71 zi_1 ?_
        refine w_en dX5_readPart_72 rfl ?_
        exact ⟨_, _, rfl, (by have := zt_1; omega), (by have := zt_1; omega), hJ232, hb⟩
      · skip
        replace hb : zHd _ := hb.2 h212
        refine w_cge_t dX5_readPart_51 (t := 73) rfl (by have := zt_7; omega) ?_
        obtain ⟨m, hI⟩ := hb
        exact (main m).1 M201 x206 none hJ210 (by omega) (by omega) hI
    · skip
      replace hb : zHd _ := hb.2 h211
      refine w_ceq_t dX5_readPart_45 (t := 73) rfl (by have := zt_m1; omega) ?_
      obtain ⟨m, hI⟩ := hb
      exact (main m).1 M201 x206 none hJ210 (by omega) (by omega) hI
  · skip
    replace hb : zHd _ := hb.2 h200
    refine w_cne_f dX5_readPart_10 (t := 38) rfl (by have := zt_4; omega) ?_
    refine w_lo dX5_readPart_13 rfl rfl rfl rfl ?_
    obtain ⟨b233, f234, h235⟩ := zd_2_8 hJ0.1
    have h236 := zDm_b h235
    refine w_gf dX5_readPart_14 rfl hJ0.1.1 zs_2 f234 ?_
    replace hb : zHd _ := hb b233 (ziR f234) (zDm_or h235)
    refine w_gf dX5_readPart_17 rfl hJ0.1.1 (zs_1_0 h235) (zr_1_0_15 h235 hJ0.1) ?_
    refine w_lo dX5_readPart_20 rfl rfl rfl rfl ?_
    refine w_gf dX5_readPart_21 rfl hJ0.1.1 zs_2 (zr_2_4 hJ0.1) ?_
    refine w_lo dX5_readPart_24 rfl rfl rfl rfl ?_
    refine w_gf dX5_readPart_25 rfl hJ0.1.1 zs_2 f193 ?_
    refine w_iai dX5_readPart_28 hJ0.1 zs_5 (by omega) (by omega) zu_5 ?_
    intro x240 f237 h238 h239
    replace hb : zHd _ := hb x240.toInt (ziEk f237 rfl)
    refine w_iv dX5_readPart_29 rfl rfl (As := [.int x240]) rfl rfl hJ0.1.1 (zs_1_13 h235) (Nat.le_of_ble_eq_true rfl) ?_
    obtain ⟨P243, hp244, hb⟩ := hb
    replace hb : zHd _ := hb
    refine ZV.imp (u_515 (b233 + 13) (zLw_of h235) x240 hN hJ0.1 hp244) ?_
    rintro _ ⟨M241, rfl, hJ242, hq245⟩
    replace hb : zHd _ := hb  (zi M241) (zi_fr hJ242.2) hq245
    have hJ247 := zJ_trans hJ0 hJ242 (zSub_cons (fun _ _ h h' hk => ((zDm_or h235).elim (fun e => zIR_s (zIR_s (zIR_e (by omega) (by omega) hk))) (fun e => zIR_s (zIR_s (zIR_s (zIR_e (by omega) (by omega) hk)))))) (zSub_cons (fun _ _ h h' hk => ((zDm_or h235).elim (fun e => zIR_s (zIR_s (zIR_s (zIR_s (zIR_a (by omega) (by omega)))))) (fun e => zIR_s (zIR_s (zIR_s (zIR_s (zIR_s (zIR_a (by omega) (by omega))))))))) zSub_nil))
    show ZW _ _ _ _ _ _ _ (32, [some (.ref 2), some (.int 3), none, none], [], M241)
    refine w_lo dX5_readPart_32 rfl rfl rfl rfl ?_
    refine w_iv dX5_readPart_33 rfl rfl (As := []) rfl rfl hJ247.1.1 zs_2 (Nat.le_of_ble_eq_true rfl) ?_
    obtain ⟨P250, hp251, hb⟩ := hb
    replace hb : zHd _ := hb
    refine ZV.imp (u_1289 hN hJ247.1 hp251) ?_
    rintro _ ⟨M248, rfl, hJ249, hq252⟩
    replace hb : zHd _ := hb  (zi M248) (zi_fr hJ249.2) hq252
    have hJ254 := zJ_trans hJ247 hJ249 (zSub_cons (fun _ _ h h' hk => zIR_s (zIR_s (zIR_s (zIR_s (zIR_s (zIR_s (zIR_e (by omega) (by omega) hk))))))) zSub_nil)
    show ZW _ _ _ _ _ _ _ (36, [some (.ref 2), some (.int 3), none, none], [], M248)
    refine w_ic dX5_readPart_36 zi_1 ?_
    refine w_en dX5_readPart_37 rfl ?_
    exact ⟨_, _, rfl, (by have := zt_1; omega), (by have := zt_1; omega), hJ254, hb⟩
set_option maxRecDepth 100000 in
theorem u_1297_c3 {X : List Int32} {d N : Nat} {M0 : zM}  (hN : N ≤ 600) (hB0 : zB N M0) {Q : Int → zF → Prop} (hb : b_1297_c3 (zi M0) Q) : ZV X (d + 13) 1297 [.ref 2, .int 3] M0 (zRI N [(2, 3, 0), (2, 3, 1), (20, 21, 1), (41, 42, 1), (21, 22, 1000), (42, 43, 1000), (2, 3, 7)] M0 (0) (1) (fun v M' => Q v.toInt (zi M'))) := by
  have hJ0 : zJ N [(2, 3, 0), (2, 3, 1), (20, 21, 1), (41, 42, 1), (21, 22, 1000), (42, 43, 1000), (2, 3, 7)] M0 M0 := zJ_refl hB0
  refine ZV.of (ini := false) rfl (Nat.le_of_ble_eq_true rfl) (by decide +kernel) ?_
  obtain ⟨I4, I17, I52, I95, I115, I130, hbE, hb4, hb17, hb52, hb95, hb115, hb130⟩ := hb
  replace hbE : zHd _ := hbE
  replace hb4 : zHd _ := hb4
  replace hb17 : zHd _ := hb17
  replace hb52 : zHd _ := hb52
  replace hb95 : zHd _ := hb95
  replace hb115 : zHd _ := hb115
  replace hb130 : zHd _ := hb130
  have main : ∀ n : Nat,
      (∀ (M : zM) (v4_2 : Int32) (v4_3 : Int32) (o4_4 : Option Value) (o4_5 : Option Value), zJ N [(2, 3, 0), (2, 3, 1), (20, 21, 1), (41, 42, 1), (21, 22, 1000), (42, 43, 1000), (2, 3, 7)] M0 M → ((-13 : Int) ≤ v4_2.toInt) → (v4_2.toInt ≤ 0) → ((0 : Int) ≤ v4_3.toInt) → (v4_3.toInt ≤ 1601) → I4 n (zi M) v4_2.toInt v4_3.toInt → ZW X (d + 12) 5 false (some .boolean) cX5_readSum (zRI N [(2, 3, 0), (2, 3, 1), (20, 21, 1), (41, 42, 1), (21, 22, 1000), (42, 43, 1000), (2, 3, 7)] M0 (0) (1) (fun v M' => Q v.toInt (zi M'))) (4, [some (.ref 2), some (.int 3), some (.int v4_2), some (.int v4_3), o4_4, o4_5], [], M)) ∧
      (∀ (M : zM) (v17_2 : Int32) (v17_3 : Int32) (v17_4 : Int32) (v17_5 : Int32), zJ N [(2, 3, 0), (2, 3, 1), (20, 21, 1), (41, 42, 1), (21, 22, 1000), (42, 43, 1000), (2, 3, 7)] M0 M → ((-2147483648 : Int) ≤ v17_2.toInt) → (v17_2.toInt ≤ 0) → ((0 : Int) ≤ v17_3.toInt) → (v17_3.toInt ≤ 1600) → ((-11 : Int) ≤ v17_4.toInt) → (v17_4.toInt ≤ 0) → ((0 : Int) ≤ v17_5.toInt) → (v17_5.toInt ≤ 1601) → I17 n (zi M) v17_2.toInt v17_3.toInt v17_4.toInt v17_5.toInt → ZW X (d + 12) 5 false (some .boolean) cX5_readSum (zRI N [(2, 3, 0), (2, 3, 1), (20, 21, 1), (41, 42, 1), (21, 22, 1000), (42, 43, 1000), (2, 3, 7)] M0 (0) (1) (fun v M' => Q v.toInt (zi M'))) (17, [some (.ref 2), some (.int 3), some (.int v17_2), some (.int v17_3), some (.int v17_4), some (.int v17_5)], [], M)) ∧
      (∀ (M : zM) (v52_2 : Int32) (v52_3 : Int32) (u52_4 : Int32) (v52_5 : Int32), zJ N [(2, 3, 0), (2, 3, 1), (20, 21, 1), (41, 42, 1), (21, 22, 1000), (42, 43, 1000), (2, 3, 7)] M0 M → ((-2147483648 : Int) ≤ v52_2.toInt) → (v52_2.toInt ≤ 0) → ((0 : Int) ≤ v52_3.toInt) → (v52_3.toInt ≤ 1600) → ((0 : Int) ≤ v52_5.toInt) → (v52_5.toInt ≤ 1600) → I52 n (zi M) v52_2.toInt v52_3.toInt v52_5.toInt → ZW X (d + 12) 5 false (some .boolean) cX5_readSum (zRI N [(2, 3, 0), (2, 3, 1), (20, 21, 1), (41, 42, 1), (21, 22, 1000), (42, 43, 1000), (2, 3, 7)] M0 (0) (1) (fun v M' => Q v.toInt (zi M'))) (52, [some (.ref 2), some (.int 3), some (.int v52_2), some (.int v52_3), some (.int u52_4), some (.int v52_5)], [], M)) ∧
      (∀ (M : zM) (v95_2 : Int32) (v95_3 : Int32) (u95_4 : Int32) (v95_5 : Int32) (s95_0 : Int32), zJ N [(2, 3, 0), (2, 3, 1), (20, 21, 1), (41, 42, 1), (21, 22, 1000), (42, 43, 1000), (2, 3, 7)] M0 M → ((-2147483648 : Int) ≤ v95_2.toInt) → (v95_2.toInt ≤ 0) → ((0 : Int) ≤ v95_3.toInt) → (v95_3.toInt ≤ 1600) → ((0 : Int) ≤ v95_5.toInt) → (v95_5.toInt ≤ 1600) → ((-11 : Int) ≤ s95_0.toInt) → (s95_0.toInt ≤ 0) → I95 n (zi M) v95_2.toInt v95_3.toInt v95_5.toInt s95_0.toInt → ZW X (d + 12) 5 false (some .boolean) cX5_readSum (zRI N [(2, 3, 0), (2, 3, 1), (20, 21, 1), (41, 42, 1), (21, 22, 1000), (42, 43, 1000), (2, 3, 7)] M0 (0) (1) (fun v M' => Q v.toInt (zi M'))) (95, [some (.ref 2), some (.int 3), some (.int v95_2), some (.int v95_3), some (.int u95_4), some (.int v95_5)], [.int s95_0], M)) ∧
      (∀ (M : zM) (v115_2 : Int32) (v115_3 : Int32) (u115_4 : Int32) (u115_5 : Int32), zJ N [(2, 3, 0), (2, 3, 1), (20, 21, 1), (41, 42, 1), (21, 22, 1000), (42, 43, 1000), (2, 3, 7)] M0 M → ((-2147483648 : Int) ≤ v115_2.toInt) → (v115_2.toInt ≤ 0) → ((0 : Int) ≤ v115_3.toInt) → (v115_3.toInt ≤ 1600) → I115 n (zi M) v115_2.toInt v115_3.toInt → ZW X (d + 12) 5 false (some .boolean) cX5_readSum (zRI N [(2, 3, 0), (2, 3, 1), (20, 21, 1), (41, 42, 1), (21, 22, 1000), (42, 43, 1000), (2, 3, 7)] M0 (0) (1) (fun v M' => Q v.toInt (zi M'))) (115, [some (.ref 2), some (.int 3), some (.int v115_2), some (.int v115_3), some (.int u115_4), some (.int u115_5)], [], M)) ∧
      (∀ (M : zM) (u130_2 : Int32) (v130_3 : Int32) (u130_4 : Int32) (u130_5 : Int32), zJ N [(2, 3, 0), (2, 3, 1), (20, 21, 1), (41, 42, 1), (21, 22, 1000), (42, 43, 1000), (2, 3, 7)] M0 M → ((0 : Int) ≤ v130_3.toInt) → (v130_3.toInt ≤ 1600) → I130 n (zi M) v130_3.toInt → ZW X (d + 12) 5 false (some .boolean) cX5_readSum (zRI N [(2, 3, 0), (2, 3, 1), (20, 21, 1), (41, 42, 1), (21, 22, 1000), (42, 43, 1000), (2, 3, 7)] M0 (0) (1) (fun v M' => Q v.toInt (zi M'))) (130, [some (.ref 2), some (.int 3), some (.int u130_2), some (.int v130_3), some (.int u130_4), some (.int u130_5)], [], M)) := by
    intro n
    induction n using Nat.strongRecOn with
    | _ n ih =>
      refine ⟨?_, ?_, ?_, ?_, ?_, ?_⟩
      · intro M v4_2 v4_3 o4_4 o4_5 hJ v4_20 v4_21 v4_30 v4_31 hI
        have hb : zHd _ := hb4 n (zi M) v4_2.toInt v4_3.toInt (zi_fr hJ.2) v4_20 v4_21 v4_30 v4_31 hI
        refine w_lo dX5_readSum_4 rfl rfl rfl rfl ?_
        refine w_si dX5_readSum_5 (c := 1600) (by decide) ?_
        rcases zcut (1600 : Int) v4_3.toInt with h1 | h1
        · skip
          replace hb : zHd _ := hb.1 h1
          refine w_cgt_t dX5_readSum_8 (t := 177) rfl (by have := zt_1600; omega) ?_
          refine w_ic dX5_readSum_177 zi_1 ?_
          refine w_en dX5_readSum_178 rfl ?_
          exact ⟨_, _, rfl, (by have := zt_1; omega), (by have := zt_1; omega), hJ, hb⟩
        · skip
          replace hb : zHd _ := hb.2 h1
          refine w_cgt_f dX5_readSum_8 (t := 177) rfl (by have := zt_1600; omega) ?_
          refine w_ic dX5_readSum_11 zi_0 ?_
          refine w_lo (ml' := [some (.ref 2), some (.int 3), some (.int v4_2), some (.int v4_3), some (.int 0), o4_5]) dX5_readSum_12 rfl rfl rfl rfl ?_
          refine w_ic dX5_readSum_14 zi_0 ?_
          refine w_lo (ml' := [some (.ref 2), some (.int 3), some (.int v4_2), some (.int v4_3), some (.int 0), some (.int 0)]) dX5_readSum_15 rfl rfl rfl rfl ?_
          obtain ⟨m, hm, hI⟩ := hb
          exact (ih m hm).2.1 M v4_2 v4_3 0 0 hJ (zbot _) (by omega) (by omega) (by omega) (by have := zt_0; omega) (by have := zt_0; omega) (by have := zt_0; omega) (by have := zt_0; omega) hI
      · intro M v17_2 v17_3 v17_4 v17_5 hJ v17_20 v17_21 v17_30 v17_31 v17_40 v17_41 v17_50 v17_51 hI
        have hb : zHd _ := hb17 n (zi M) v17_2.toInt v17_3.toInt v17_4.toInt v17_5.toInt (zi_fr hJ.2) v17_21 v17_30 v17_31 v17_40 v17_41 v17_50 v17_51 hI
        refine w_lo dX5_readSum_17 rfl rfl rfl rfl ?_
        refine w_si dX5_readSum_19 (c := 1600) (by decide) ?_
        rcases zcut (1600 : Int) v17_5.toInt with h2 | h2
        · skip
          replace hb : zHd _ := hb.1 h2
          refine w_cgt_t dX5_readSum_22 (t := 115) rfl (by have := zt_1600; omega) ?_
          obtain ⟨m, hm, hI⟩ := hb
          exact (ih m hm).2.2.2.2.1 M v17_2 v17_3 v17_4 v17_5 hJ (zbot _) (by omega) (by omega) (by omega) hI
        · skip
          replace hb : zHd _ := hb.2 h2
          refine w_cgt_f dX5_readSum_22 (t := 115) rfl (by have := zt_1600; omega) ?_
          refine w_lo dX5_readSum_25 rfl rfl rfl rfl ?_
          refine w_lo dX5_readSum_26 rfl rfl rfl rfl ?_
          refine w_iv dX5_readSum_27 rfl rfl (As := [.int 3]) rfl rfl hJ.1.1 zs_2 (Nat.le_of_ble_eq_true rfl) ?_
          obtain ⟨P5, hp6, hb⟩ := hb
          replace hb : zHd _ := hb
          refine ZV.imp (u_1298_c3 hN hJ.1 hp6) ?_
          rintro _ ⟨x8, M3, rfl, h9, h10, hJ4, hq7⟩
          replace hb : zHd _ := hb x8.toInt h9 h10 (zi M3) (zi_fr hJ4.2) hq7
          have hJ12 := zJ_trans hJ hJ4 (zSub_cons (fun _ _ h h' hk => zIR_e (by omega) (by omega) hk) (zSub_cons (fun _ _ h h' hk => zIR_s (zIR_e (by omega) (by omega) hk)) (zSub_cons (fun _ _ h h' hk => zIR_s (zIR_s (zIR_e (by omega) (by omega) hk))) (zSub_cons (fun _ _ h h' hk => zIR_s (zIR_s (zIR_s (zIR_e (by omega) (by omega) hk)))) (zSub_cons (fun _ _ h h' hk => zIR_s (zIR_s (zIR_s (zIR_s (zIR_a (by omega) (by omega)))))) (zSub_cons (fun _ _ h h' hk => zIR_s (zIR_s (zIR_s (zIR_s (zIR_s (zIR_a (by omega) (by omega))))))) (zSub_cons (fun _ _ h h' hk => zIR_s (zIR_s (zIR_s (zIR_s (zIR_s (zIR_s (zIR_e (by omega) (by omega) hk))))))) zSub_nil)))))))
          show ZW _ _ _ _ _ _ _ (30, [some (.ref 2), some (.int 3), some (.int v17_2), some (.int v17_3), some (.int v17_4), some (.int v17_5)], [.int x8], M3)
          rcases Int.decEq x8.toInt (0 : Int) with h13 | h13
          · skip
            replace hb : zHd _ := hb.1 h13
            refine w_ine_t dX5_readSum_30 (t := 35) rfl (by omega) ?_
            refine w_lo dX5_readSum_35 rfl rfl rfl rfl ?_
            rcases Int.decEq v17_4.toInt (0 : Int) with h14 | h14
            · skip
              replace hb : zHd _ := hb.1 h14
              refine w_ieq_f dX5_readSum_37 (t := 52) rfl (by omega) ?_
              refine w_lo dX5_readSum_40 rfl rfl rfl rfl ?_
              obtain ⟨b15, f16, h17⟩ := zd_2_8 hJ12.1
              have h18 := zDm_b h17
              refine w_gf dX5_readSum_41 rfl hJ12.1.1 zs_2 f16 ?_
              replace hb : zHd _ := hb b15 (ziR f16) (zDm_or h17)
              refine w_gf dX5_readSum_44 rfl hJ12.1.1 (zs_1_0 h17) (zr_1_0_15 h17 hJ12.1) ?_
              refine w_lo dX5_readSum_47 rfl rfl rfl rfl ?_
              refine w_iv dX5_readSum_49 rfl rfl (As := [.int v17_4]) rfl rfl hJ12.1.1 (zs_1_13 h17) (Nat.le_of_ble_eq_true rfl) ?_
              obtain ⟨P21, hp22, hb⟩ := hb
              replace hb : zHd _ := hb
              refine ZV.imp (u_515 (b15 + 13) (zLw_of h17) v17_4 hN hJ12.1 hp22) ?_
              rintro _ ⟨M19, rfl, hJ20, hq23⟩
              replace hb : zHd _ := hb  (zi M19) (zi_fr hJ20.2) hq23
              have hJ25 := zJ_trans hJ12 hJ20 (zSub_cons (fun _ _ h h' hk => ((zDm_or h17).elim (fun e => zIR_s (zIR_s (zIR_e (by omega) (by omega) hk))) (fun e => zIR_s (zIR_s (zIR_s (zIR_e (by omega) (by omega) hk)))))) (zSub_cons (fun _ _ h h' hk => ((zDm_or h17).elim (fun e => zIR_s (zIR_s (zIR_s (zIR_s (zIR_a (by omega) (by omega)))))) (fun e => zIR_s (zIR_s (zIR_s (zIR_s (zIR_s (zIR_a (by omega) (by omega))))))))) zSub_nil))
              show ZW _ _ _ _ _ _ _ (52, [some (.ref 2), some (.int 3), some (.int v17_2), some (.int v17_3), some (.int v17_4), some (.int v17_5)], [], M19)
              obtain ⟨m, hm, hI⟩ := hb
              exact (ih m hm).2.2.1 M19 v17_2 v17_3 v17_4 v17_5 hJ25 (zbot _) (by omega) (by omega) (by omega) (by omega) (by omega) hI
            · skip
              replace hb : zHd _ := hb.2 h14
              refine w_ieq_t dX5_readSum_37 (t := 52) rfl (by omega) ?_
              obtain ⟨m, hm, hI⟩ := hb
              exact (ih m hm).2.2.1 M3 v17_2 v17_3 v17_4 v17_5 hJ12 (zbot _) (by omega) (by omega) (by omega) (by omega) (by omega) hI
          · skip
            replace hb : zHd _ := hb.2 h13
            refine w_ine_f dX5_readSum_30 (t := 35) rfl (by omega) ?_
            refine w_ic dX5_readSum_33 zi_0 ?_
            refine w_en dX5_readSum_34 rfl ?_
            exact ⟨_, _, rfl, (by have := zt_0; omega), (by have := zt_0; omega), hJ12, hb⟩
      · intro M v52_2 v52_3 u52_4 v52_5 hJ v52_20 v52_21 v52_30 v52_31 v52_50 v52_51 hI
        have hb : zHd _ := hb52 n (zi M) v52_2.toInt v52_3.toInt v52_5.toInt (zi_fr hJ.2) v52_21 v52_30 v52_31 v52_50 v52_51 hI
        refine w_lo dX5_readSum_52 rfl rfl rfl rfl ?_
        refine w_bi dX5_readSum_53 (c := 42) (by decide) ?_
        refine w_iv dX5_readSum_55 rfl rfl (As := [.int 42]) rfl rfl hJ.1.1 zs_2 (Nat.le_of_ble_eq_true rfl) ?_
        obtain ⟨P28, hp29, hb⟩ := hb
        replace hb : zHd _ := hb
        have hp29c : b_1299 (zi M) (42 : Int32).toInt P28 := by rw [zt_42]; exact hp29
        refine ZV.imp (u_1299 42 (by have := zt_42; omega) (by have := zt_42; omega) hN hJ.1 hp29c) ?_
        rintro _ ⟨x31, M26, rfl, h32, h33, hJ27, hq30⟩
        replace hb : zHd _ := hb x31.toInt h32 h33 (zi M26) (zi_fr hJ27.2) hq30
        have hJ35 := zJ_trans hJ hJ27 zSub_nil
        show ZW _ _ _ _ _ _ _ (58, [some (.ref 2), some (.int 3), some (.int v52_2), some (.int v52_3), some (.int u52_4), some (.int v52_5)], [.int x31], M26)
        rcases Int.decEq x31.toInt (0 : Int) with h36 | h36
        · skip
          replace hb : zHd _ := hb.1 h36
          refine w_ieq_f dX5_readSum_58 (t := 66) rfl (by omega) ?_
          refine w_bi dX5_readSum_61 (c := (-9)) (by decide) ?_
          refine w_gt dX5_readSum_63 (t := 95) rfl ?_
          obtain ⟨m, hm, hI⟩ := hb
          exact (ih m hm).2.2.2.1 M26 v52_2 v52_3 u52_4 v52_5 (-9) hJ35 (zbot _) (by omega) (by omega) (by omega) (by omega) (by omega) (by have := zt_m9; omega) (by have := zt_m9; omega) hI
        · skip
          replace hb : zHd _ := hb.2 h36
          refine w_ieq_t dX5_readSum_58 (t := 66) rfl (by omega) ?_
          refine w_lo dX5_readSum_66 rfl rfl rfl rfl ?_
          refine w_bi dX5_readSum_67 (c := 47) (by decide) ?_
          refine w_iv dX5_readSum_69 rfl rfl (As := [.int 47]) rfl rfl hJ35.1.1 zs_2 (Nat.le_of_ble_eq_true rfl) ?_
          obtain ⟨P39, hp40, hb⟩ := hb
          replace hb : zHd _ := hb
          have hp40c : b_1299 (zi M26) (47 : Int32).toInt P39 := by rw [zt_47]; exact hp40
          refine ZV.imp (u_1299 47 (by have := zt_47; omega) (by have := zt_47; omega) hN hJ35.1 hp40c) ?_
          rintro _ ⟨x42, M37, rfl, h43, h44, hJ38, hq41⟩
          replace hb : zHd _ := hb x42.toInt h43 h44 (zi M37) (zi_fr hJ38.2) hq41
          have hJ46 := zJ_trans hJ35 hJ38 zSub_nil
          show ZW _ _ _ _ _ _ _ (72, [some (.ref 2), some (.int 3), some (.int v52_2), some (.int v52_3), some (.int u52_4), some (.int v52_5)], [.int x42], M37)
          rcases Int.decEq x42.toInt (0 : Int) with h47 | h47
          · skip
            replace hb : zHd _ := hb.1 h47
            refine w_ieq_f dX5_readSum_72 (t := 80) rfl (by omega) ?_
            refine w_bi dX5_readSum_75 (c := (-10)) (by decide) ?_
            refine w_gt dX5_readSum_77 (t := 95) rfl ?_
            obtain ⟨m, hm, hI⟩ := hb
            exact (ih m hm).2.2.2.1 M37 v52_2 v52_3 u52_4 v52_5 (-10) hJ46 (zbot _) (by omega) (by omega) (by omega) (by omega) (by omega) (by have := zt_m10; omega) (by have := zt_m10; omega) hI
          · skip
            replace hb : zHd _ := hb.2 h47
            refine w_ieq_t dX5_readSum_72 (t := 80) rfl (by omega) ?_
            refine w_lo dX5_readSum_80 rfl rfl rfl rfl ?_
            refine w_bi dX5_readSum_81 (c := 37) (by decide) ?_
            refine w_iv dX5_readSum_83 rfl rfl (As := [.int 37]) rfl rfl hJ46.1.1 zs_2 (Nat.le_of_ble_eq_true rfl) ?_
            obtain ⟨P50, hp51, hb⟩ := hb
            replace hb : zHd _ := hb
            have hp51c : b_1299 (zi M37) (37 : Int32).toInt P50 := by rw [zt_37]; exact hp51
            refine ZV.imp (u_1299 37 (by have := zt_37; omega) (by have := zt_37; omega) hN hJ46.1 hp51c) ?_
            rintro _ ⟨x53, M48, rfl, h54, h55, hJ49, hq52⟩
            replace hb : zHd _ := hb x53.toInt h54 h55 (zi M48) (zi_fr hJ49.2) hq52
            have hJ57 := zJ_trans hJ46 hJ49 zSub_nil
            show ZW _ _ _ _ _ _ _ (86, [some (.ref 2), some (.int 3), some (.int v52_2), some (.int v52_3), some (.int u52_4), some (.int v52_5)], [.int x53], M48)
            rcases Int.decEq x53.toInt (0 : Int) with h58 | h58
            · skip
              replace hb : zHd _ := hb.1 h58
              refine w_ieq_f dX5_readSum_86 (t := 94) rfl (by omega) ?_
              refine w_bi dX5_readSum_89 (c := (-11)) (by decide) ?_
              refine w_gt dX5_readSum_91 (t := 95) rfl ?_
              obtain ⟨m, hm, hI⟩ := hb
              exact (ih m hm).2.2.2.1 M48 v52_2 v52_3 u52_4 v52_5 (-11) hJ57 (zbot _) (by omega) (by omega) (by omega) (by omega) (by omega) (by have := zt_m11; omega) (by have := zt_m11; omega) hI
            · skip
              replace hb : zHd _ := hb.2 h58
              refine w_ieq_t dX5_readSum_86 (t := 94) rfl (by omega) ?_
              refine w_ic dX5_readSum_94 zi_0 ?_
              obtain ⟨m, hm, hI⟩ := hb
              exact (ih m hm).2.2.2.1 M48 v52_2 v52_3 u52_4 v52_5 0 hJ57 (zbot _) (by omega) (by omega) (by omega) (by omega) (by omega) (by have := zt_0; omega) (by have := zt_0; omega) hI
      · intro M v95_2 v95_3 u95_4 v95_5 s95_0 hJ v95_20 v95_21 v95_30 v95_31 v95_50 v95_51 s95_00 s95_01 hI
        have hb : zHd _ := hb95 n (zi M) v95_2.toInt v95_3.toInt v95_5.toInt s95_0.toInt (zi_fr hJ.2) v95_21 v95_30 v95_31 v95_50 v95_51 s95_00 s95_01 hI
        refine w_lo (ml' := [some (.ref 2), some (.int 3), some (.int v95_2), some (.int v95_3), some (.int s95_0), some (.int v95_5)]) dX5_readSum_95 rfl rfl rfl rfl ?_
        refine w_lo dX5_readSum_97 rfl rfl rfl rfl ?_
        rcases Int.decEq s95_0.toInt (0 : Int) with h59 | h59
        · skip
          replace hb : zHd _ := hb.1 h59
          refine w_ine_t dX5_readSum_99 (t := 105) rfl (by omega) ?_
          refine w_lo dX5_readSum_105 rfl rfl rfl rfl ?_
          refine w_iv dX5_readSum_106 rfl rfl (As := []) rfl rfl hJ.1.1 zs_2 (Nat.le_of_ble_eq_true rfl) ?_
          obtain ⟨P62, hp63, hb⟩ := hb
          replace hb : zHd _ := hb
          refine ZV.imp (u_1289 hN hJ.1 hp63) ?_
          rintro _ ⟨M60, rfl, hJ61, hq64⟩
          replace hb : zHd _ := hb  (zi M60) (zi_fr hJ61.2) hq64
          have hJ66 := zJ_trans hJ hJ61 (zSub_cons (fun _ _ h h' hk => zIR_s (zIR_s (zIR_s (zIR_s (zIR_s (zIR_s (zIR_e (by omega) (by omega) hk))))))) zSub_nil)
          show ZW _ _ _ _ _ _ _ (109, [some (.ref 2), some (.int 3), some (.int v95_2), some (.int v95_3), some (.int s95_0), some (.int v95_5)], [], M60)
          refine w_inc (kk := 5) dX5_readSum_109 rfl (m := 1) (by decide) (by omega) ?_
          intro x67 h68
          refine ⟨_, rfl, ?_⟩
          replace hb : zHd _ := hb x67.toInt h68
          show ZW _ _ _ _ _ _ _ (112, [some (.ref 2), some (.int 3), some (.int v95_2), some (.int v95_3), some (.int s95_0), some (.int x67)], [], M60)
          refine w_gt dX5_readSum_112 (t := 17) rfl ?_
          obtain ⟨m, hm, hI⟩ := hb
          exact (ih m hm).2.1 M60 v95_2 v95_3 s95_0 x67 hJ66 (zbot _) (by omega) (by omega) (by omega) (by omega) (by omega) (by omega) (by omega) hI
        · skip
          replace hb : zHd _ := hb.2 h59
          refine w_ine_f dX5_readSum_99 (t := 105) rfl (by omega) ?_
          refine w_gt dX5_readSum_102 (t := 115) rfl ?_
          obtain ⟨m, hm, hI⟩ := hb
          exact (ih m hm).2.2.2.2.1 M v95_2 v95_3 s95_0 v95_5 hJ (zbot _) (by omega) (by omega) (by omega) hI
      · intro M v115_2 v115_3 u115_4 u115_5 hJ v115_20 v115_21 v115_30 v115_31 hI
        have hb : zHd _ := hb115 n (zi M) v115_2.toInt v115_3.toInt (zi_fr hJ.2) v115_21 v115_30 v115_31 hI
        refine w_lo dX5_readSum_115 rfl rfl rfl rfl ?_
        rcases Int.decEq v115_2.toInt (0 : Int) with h69 | h69
        · skip
          replace hb : zHd _ := hb.1 h69
          refine w_ieq_f dX5_readSum_116 (t := 130) rfl (by omega) ?_
          refine w_lo dX5_readSum_119 rfl rfl rfl rfl ?_
          obtain ⟨b70, f71, h72⟩ := zd_2_8 hJ.1
          have h73 := zDm_b h72
          refine w_gf dX5_readSum_120 rfl hJ.1.1 zs_2 f71 ?_
          replace hb : zHd _ := hb b70 (ziR f71) (zDm_or h72)
          refine w_gf dX5_readSum_123 rfl hJ.1.1 (zs_1_0 h72) (zr_1_0_15 h72 hJ.1) ?_
          refine w_lo dX5_readSum_126 rfl rfl rfl rfl ?_
          refine w_iv dX5_readSum_127 rfl rfl (As := [.int v115_2]) rfl rfl hJ.1.1 (zs_1_13 h72) (Nat.le_of_ble_eq_true rfl) ?_
          obtain ⟨P76, hp77, hb⟩ := hb
          replace hb : zHd _ := hb
          refine ZV.imp (u_515 (b70 + 13) (zLw_of h72) v115_2 hN hJ.1 hp77) ?_
          rintro _ ⟨M74, rfl, hJ75, hq78⟩
          replace hb : zHd _ := hb  (zi M74) (zi_fr hJ75.2) hq78
          have hJ80 := zJ_trans hJ hJ75 (zSub_cons (fun _ _ h h' hk => ((zDm_or h72).elim (fun e => zIR_s (zIR_s (zIR_e (by omega) (by omega) hk))) (fun e => zIR_s (zIR_s (zIR_s (zIR_e (by omega) (by omega) hk)))))) (zSub_cons (fun _ _ h h' hk => ((zDm_or h72).elim (fun e => zIR_s (zIR_s (zIR_s (zIR_s (zIR_a (by omega) (by omega)))))) (fun e => zIR_s (zIR_s (zIR_s (zIR_s (zIR_s (zIR_a (by omega) (by omega))))))))) zSub_nil))
          show ZW _ _ _ _ _ _ _ (130, [some (.ref 2), some (.int 3), some (.int v115_2), some (.int v115_3), some (.int u115_4), some (.int u115_5)], [], M74)
          obtain ⟨m, hm, hI⟩ := hb
          exact (ih m hm).2.2.2.2.2 M74 v115_2 v115_3 u115_4 u115_5 hJ80 (by omega) (by omega) hI
        · skip
          replace hb : zHd _ := hb.2 h69
          refine w_ieq_t dX5_readSum_116 (t := 130) rfl (by omega) ?_
          obtain ⟨m, hm, hI⟩ := hb
          exact (ih m hm).2.2.2.2.2 M v115_2 v115_3 u115_4 u115_5 hJ (by omega) (by omega) hI
      · intro M u130_2 v130_3 u130_4 u130_5 hJ v130_30 v130_31 hI
        have hb : zHd _ := hb130 n (zi M) v130_3.toInt (zi_fr hJ.2) v130_30 v130_31 hI
        refine w_lo dX5_readSum_130 rfl rfl rfl rfl ?_
        refine w_bi dX5_readSum_131 (c := 43) (by decide) ?_
        refine w_iv dX5_readSum_133 rfl rfl (As := [.int 43]) rfl rfl hJ.1.1 zs_2 (Nat.le_of_ble_eq_true rfl) ?_
        obtain ⟨P83, hp84, hb⟩ := hb
        replace hb : zHd _ := hb
        have hp84c : b_1299 (zi M) (43 : Int32).toInt P83 := by rw [zt_43]; exact hp84
        refine ZV.imp (u_1299 43 (by have := zt_43; omega) (by have := zt_43; omega) hN hJ.1 hp84c) ?_
        rintro _ ⟨x86, M81, rfl, h87, h88, hJ82, hq85⟩
        replace hb : zHd _ := hb x86.toInt h87 h88 (zi M81) (zi_fr hJ82.2) hq85
        have hJ90 := zJ_trans hJ hJ82 zSub_nil
        show ZW _ _ _ _ _ _ _ (136, [some (.ref 2), some (.int 3), some (.int u130_2), some (.int v130_3), some (.int u130_4), some (.int u130_5)], [.int x86], M81)
        rcases Int.decEq x86.toInt (0 : Int) with h91 | h91
        · skip
          replace hb : zHd _ := hb.1 h91
          refine w_ieq_f dX5_readSum_136 (t := 144) rfl (by omega) ?_
          refine w_bi dX5_readSum_139 (c := (-12)) (by decide) ?_
          refine w_gt dX5_readSum_141 (t := 159) rfl ?_
          refine w_lo (ml' := [some (.ref 2), some (.int 3), some (.int (-12)), some (.int v130_3), some (.int u130_4), some (.int u130_5)]) dX5_readSum_159 rfl rfl rfl rfl ?_
          refine w_lo dX5_readSum_160 rfl rfl rfl rfl ?_
          refine w_ine_t dX5_readSum_161 (t := 167) rfl (by have := zt_m12; omega) ?_
          refine w_lo dX5_readSum_167 rfl rfl rfl rfl ?_
          refine w_iv dX5_readSum_168 rfl rfl (As := []) rfl rfl hJ90.1.1 zs_2 (Nat.le_of_ble_eq_true rfl) ?_
          obtain ⟨P94, hp95, hb⟩ := hb
          replace hb : zHd _ := hb
          refine ZV.imp (u_1289 hN hJ90.1 hp95) ?_
          rintro _ ⟨M92, rfl, hJ93, hq96⟩
          replace hb : zHd _ := hb  (zi M92) (zi_fr hJ93.2) hq96
          have hJ98 := zJ_trans hJ90 hJ93 (zSub_cons (fun _ _ h h' hk => zIR_s (zIR_s (zIR_s (zIR_s (zIR_s (zIR_s (zIR_e (by omega) (by omega) hk))))))) zSub_nil)
          show ZW _ _ _ _ _ _ _ (171, [some (.ref 2), some (.int 3), some (.int (-12)), some (.int v130_3), some (.int u130_4), some (.int u130_5)], [], M92)
          refine w_inc (kk := 3) dX5_readSum_171 rfl (m := 1) (by decide) (by omega) ?_
          intro x99 h100
          refine ⟨_, rfl, ?_⟩
          replace hb : zHd _ := hb x99.toInt h100
          show ZW _ _ _ _ _ _ _ (174, [some (.ref 2), some (.int 3), some (.int (-12)), some (.int x99), some (.int u130_4), some (.int u130_5)], [], M92)
          refine w_gt dX5_readSum_174 (t := 4) rfl ?_
          obtain ⟨m, hm, hI⟩ := hb
          exact (ih m hm).1 M92 (-12) x99 (some (.int u130_4)) (some (.int u130_5)) hJ98 (by have := zt_m12; omega) (by have := zt_m12; omega) (by omega) (by omega) hI
        · skip
          replace hb : zHd _ := hb.2 h91
          refine w_ieq_t dX5_readSum_136 (t := 144) rfl (by omega) ?_
          refine w_lo dX5_readSum_144 rfl rfl rfl rfl ?_
          refine w_bi dX5_readSum_145 (c := 45) (by decide) ?_
          refine w_iv dX5_readSum_147 rfl rfl (As := [.int 45]) rfl rfl hJ90.1.1 zs_2 (Nat.le_of_ble_eq_true rfl) ?_
          obtain ⟨P103, hp104, hb⟩ := hb
          replace hb : zHd _ := hb
          have hp104c : b_1299 (zi M81) (45 : Int32).toInt P103 := by rw [zt_45]; exact hp104
          refine ZV.imp (u_1299 45 (by have := zt_45; omega) (by have := zt_45; omega) hN hJ90.1 hp104c) ?_
          rintro _ ⟨x106, M101, rfl, h107, h108, hJ102, hq105⟩
          replace hb : zHd _ := hb x106.toInt h107 h108 (zi M101) (zi_fr hJ102.2) hq105
          have hJ110 := zJ_trans hJ90 hJ102 zSub_nil
          show ZW _ _ _ _ _ _ _ (150, [some (.ref 2), some (.int 3), some (.int u130_2), some (.int v130_3), some (.int u130_4), some (.int u130_5)], [.int x106], M101)
          rcases Int.decEq x106.toInt (0 : Int) with h111 | h111
          · skip
            replace hb : zHd _ := hb.1 h111
            refine w_ieq_f dX5_readSum_150 (t := 158) rfl (by omega) ?_
            refine w_bi dX5_readSum_153 (c := (-13)) (by decide) ?_
            refine w_gt dX5_readSum_155 (t := 159) rfl ?_
            refine w_lo (ml' := [some (.ref 2), some (.int 3), some (.int (-13)), some (.int v130_3), some (.int u130_4), some (.int u130_5)]) dX5_readSum_159 rfl rfl rfl rfl ?_
            refine w_lo dX5_readSum_160 rfl rfl rfl rfl ?_
            refine w_ine_t dX5_readSum_161 (t := 167) rfl (by have := zt_m13; omega) ?_
            refine w_lo dX5_readSum_167 rfl rfl rfl rfl ?_
            refine w_iv dX5_readSum_168 rfl rfl (As := []) rfl rfl hJ110.1.1 zs_2 (Nat.le_of_ble_eq_true rfl) ?_
            obtain ⟨P114, hp115, hb⟩ := hb
            replace hb : zHd _ := hb
            refine ZV.imp (u_1289 hN hJ110.1 hp115) ?_
            rintro _ ⟨M112, rfl, hJ113, hq116⟩
            replace hb : zHd _ := hb  (zi M112) (zi_fr hJ113.2) hq116
            have hJ118 := zJ_trans hJ110 hJ113 (zSub_cons (fun _ _ h h' hk => zIR_s (zIR_s (zIR_s (zIR_s (zIR_s (zIR_s (zIR_e (by omega) (by omega) hk))))))) zSub_nil)
            show ZW _ _ _ _ _ _ _ (171, [some (.ref 2), some (.int 3), some (.int (-13)), some (.int v130_3), some (.int u130_4), some (.int u130_5)], [], M112)
            refine w_inc (kk := 3) dX5_readSum_171 rfl (m := 1) (by decide) (by omega) ?_
            intro x119 h120
            refine ⟨_, rfl, ?_⟩
            replace hb : zHd _ := hb x119.toInt h120
            show ZW _ _ _ _ _ _ _ (174, [some (.ref 2), some (.int 3), some (.int (-13)), some (.int x119), some (.int u130_4), some (.int u130_5)], [], M112)
            refine w_gt dX5_readSum_174 (t := 4) rfl ?_
            obtain ⟨m, hm, hI⟩ := hb
            exact (ih m hm).1 M112 (-13) x119 (some (.int u130_4)) (some (.int u130_5)) hJ118 (by have := zt_m13; omega) (by have := zt_m13; omega) (by omega) (by omega) hI
          · skip
            replace hb : zHd _ := hb.2 h111
            refine w_ieq_t dX5_readSum_150 (t := 158) rfl (by omega) ?_
            refine w_ic dX5_readSum_158 zi_0 ?_
            refine w_lo (ml' := [some (.ref 2), some (.int 3), some (.int 0), some (.int v130_3), some (.int u130_4), some (.int u130_5)]) dX5_readSum_159 rfl rfl rfl rfl ?_
            refine w_lo dX5_readSum_160 rfl rfl rfl rfl ?_
            refine w_ine_f dX5_readSum_161 (t := 167) rfl (by have := zt_0; omega) ?_
            refine w_gt dX5_readSum_164 (t := 177) rfl ?_
            refine w_ic dX5_readSum_177 zi_1 ?_
            refine w_en dX5_readSum_178 rfl ?_
            exact ⟨_, _, rfl, (by have := zt_1; omega), (by have := zt_1; omega), hJ110, hb⟩
  have hb : zHd _ := hbE
  show ZW _ _ _ _ _ _ _ (0, [some (.ref 2), some (.int 3), none, none, none, none], [], M0)
  refine w_ic dX5_readSum_0 zi_0 ?_
  refine w_lo (ml' := [some (.ref 2), some (.int 3), some (.int 0), none, none, none]) dX5_readSum_1 rfl rfl rfl rfl ?_
  refine w_ic dX5_readSum_2 zi_0 ?_
  refine w_lo (ml' := [some (.ref 2), some (.int 3), some (.int 0), some (.int 0), none, none]) dX5_readSum_3 rfl rfl rfl rfl ?_
  obtain ⟨m, hI⟩ := hb
  exact (main m).1 M0 0 0 none none hJ0 (by have := zt_0; omega) (by have := zt_0; omega) (by have := zt_0; omega) (by have := zt_0; omega) hI
