/-! walks of the Reader by pure conditions (wip/safe/gen32.py) -/
set_option maxRecDepth 100000 in
theorem u_1301_c1 {X : List Int32} {d N : Nat} {M0 : zM}  (hN : N ≤ 600) (hB0 : zB N M0) {Q : Int → zF → Prop} (hb : b_1301_c1 (zi M0) Q) : ZV X (d + 18) 1301 [.ref 2, .int 1] M0 (zRI N [(2, 3, 0), (2, 3, 1), (20, 21, 1), (41, 42, 1), (21, 22, 1000), (42, 43, 1000), (2, 3, 7)] M0 (0) (1) (fun v M' => Q v.toInt (zi M'))) := by
  have hJ0 : zJ N [(2, 3, 0), (2, 3, 1), (20, 21, 1), (41, 42, 1), (21, 22, 1000), (42, 43, 1000), (2, 3, 7)] M0 M0 := zJ_refl hB0
  refine ZV.of (ini := false) rfl (Nat.le_of_ble_eq_true rfl) (by decide +kernel) ?_
  obtain ⟨I2, I28, I167, hbE, hb2, hb28, hb167⟩ := hb
  replace hbE : zHd _ := hbE
  replace hb2 : zHd _ := hb2
  replace hb28 : zHd _ := hb28
  replace hb167 : zHd _ := hb167
  have main : ∀ n : Nat,
      (∀ (M : zM) (v2_2 : Int32) (o2_3 : Option Value), zJ N [(2, 3, 0), (2, 3, 1), (20, 21, 1), (41, 42, 1), (21, 22, 1000), (42, 43, 1000), (2, 3, 7)] M0 M → ((0 : Int) ≤ v2_2.toInt) → (v2_2.toInt ≤ 1601) → I2 n (zi M) v2_2.toInt → ZW X (d + 17) 5 false (some .boolean) cX5_readFact (zRI N [(2, 3, 0), (2, 3, 1), (20, 21, 1), (41, 42, 1), (21, 22, 1000), (42, 43, 1000), (2, 3, 7)] M0 (0) (1) (fun v M' => Q v.toInt (zi M'))) (2, [some (.ref 2), some (.int 1), some (.int v2_2), o2_3], [], M)) ∧
      (∀ (M : zM) (v28_2 : Int32) (o28_3 : Option Value), zJ N [(2, 3, 0), (2, 3, 1), (20, 21, 1), (41, 42, 1), (21, 22, 1000), (42, 43, 1000), (2, 3, 7)] M0 M → ((0 : Int) ≤ v28_2.toInt) → (v28_2.toInt ≤ 1601) → I28 n (zi M) v28_2.toInt → ZW X (d + 17) 5 false (some .boolean) cX5_readFact (zRI N [(2, 3, 0), (2, 3, 1), (20, 21, 1), (41, 42, 1), (21, 22, 1000), (42, 43, 1000), (2, 3, 7)] M0 (0) (1) (fun v M' => Q v.toInt (zi M'))) (28, [some (.ref 2), some (.int 1), some (.int v28_2), o28_3], [], M)) ∧
      (∀ (M : zM) (v167_2 : Int32) (o167_3 : Option Value) (s167_0 : Int32), zJ N [(2, 3, 0), (2, 3, 1), (20, 21, 1), (41, 42, 1), (21, 22, 1000), (42, 43, 1000), (2, 3, 7)] M0 M → ((0 : Int) ≤ v167_2.toInt) → (v167_2.toInt ≤ 1601) → ((-16 : Int) ≤ s167_0.toInt) → (s167_0.toInt ≤ 0) → I167 n (zi M) v167_2.toInt s167_0.toInt → ZW X (d + 17) 5 false (some .boolean) cX5_readFact (zRI N [(2, 3, 0), (2, 3, 1), (20, 21, 1), (41, 42, 1), (21, 22, 1000), (42, 43, 1000), (2, 3, 7)] M0 (0) (1) (fun v M' => Q v.toInt (zi M'))) (167, [some (.ref 2), some (.int 1), some (.int v167_2), o167_3], [.int s167_0], M)) := by
    intro n
    induction n using Nat.strongRecOn with
    | _ n ih =>
      refine ⟨?_, ?_, ?_⟩
      · intro M v2_2 o2_3 hJ v2_20 v2_21 hI
        have hb : zHd _ := hb2 n (zi M) v2_2.toInt (zi_fr hJ.2) v2_20 v2_21 hI
        refine w_lo dX5_readFact_2 rfl rfl rfl rfl ?_
        refine w_si dX5_readFact_3 (c := 1600) (by decide) ?_
        rcases zcut (1600 : Int) v2_2.toInt with h1 | h1
        · skip
          replace hb : zHd _ := hb.1 h1
          refine w_cgt_t dX5_readFact_6 (t := 28) rfl (by have := zt_1600; omega) ?_
          obtain ⟨m, hm, hI⟩ := hb
          exact (ih m hm).2.1 M v2_2 o2_3 hJ (by omega) (by omega) hI
        · skip
          replace hb : zHd _ := hb.2 h1
          refine w_cgt_f dX5_readFact_6 (t := 28) rfl (by have := zt_1600; omega) ?_
          refine w_lo dX5_readFact_9 rfl rfl rfl rfl ?_
          refine w_iv dX5_readFact_10 rfl rfl (As := []) rfl rfl hJ.1.1 zs_2 (Nat.le_of_ble_eq_true rfl) ?_
          obtain ⟨P4, hp5, hb⟩ := hb
          replace hb : zHd _ := hb
          refine ZV.imp (u_1287 hN hJ.1 hp5) ?_
          rintro _ ⟨x7, M2, rfl, h8, h9, hJ3, hq6⟩
          replace hb : zHd _ := hb x7.toInt h8 h9 (zi M2) (zi_fr hJ3.2) hq6
          have hJ11 := zJ_trans hJ hJ3 zSub_nil
          show ZW _ _ _ _ _ _ _ (13, [some (.ref 2), some (.int 1), some (.int v2_2), o2_3], [.int x7], M2)
          refine w_bi dX5_readFact_13 (c := 23) (by decide) ?_
          rcases Int.decEq x7.toInt (23 : Int) with h12 | h12
          · skip
            replace hb : zHd _ := hb.1 h12
            refine w_cne_t dX5_readFact_15 (t := 28) rfl (by have := zt_23; omega) ?_
            obtain ⟨m, hm, hI⟩ := hb
            exact (ih m hm).2.1 M2 v2_2 o2_3 hJ11 (by omega) (by omega) hI
          · skip
            replace hb : zHd _ := hb.2 h12
            refine w_cne_f dX5_readFact_15 (t := 28) rfl (by have := zt_23; omega) ?_
            refine w_lo dX5_readFact_18 rfl rfl rfl rfl ?_
            refine w_iv dX5_readFact_19 rfl rfl (As := []) rfl rfl hJ11.1.1 zs_2 (Nat.le_of_ble_eq_true rfl) ?_
            obtain ⟨P15, hp16, hb⟩ := hb
            replace hb : zHd _ := hb
            refine ZV.imp (u_1289 hN hJ11.1 hp16) ?_
            rintro _ ⟨M13, rfl, hJ14, hq17⟩
            replace hb : zHd _ := hb  (zi M13) (zi_fr hJ14.2) hq17
            have hJ19 := zJ_trans hJ11 hJ14 (zSub_cons (fun _ _ h h' hk => zIR_s (zIR_s (zIR_s (zIR_s (zIR_s (zIR_s (zIR_e (by omega) (by omega) hk))))))) zSub_nil)
            show ZW _ _ _ _ _ _ _ (22, [some (.ref 2), some (.int 1), some (.int v2_2), o2_3], [], M13)
            refine w_inc (kk := 2) dX5_readFact_22 rfl (m := 1) (by decide) (by omega) ?_
            intro x20 h21
            refine ⟨_, rfl, ?_⟩
            replace hb : zHd _ := hb x20.toInt h21
            show ZW _ _ _ _ _ _ _ (25, [some (.ref 2), some (.int 1), some (.int x20), o2_3], [], M13)
            refine w_gt dX5_readFact_25 (t := 2) rfl ?_
            obtain ⟨m, hm, hI⟩ := hb
            exact (ih m hm).1 M13 x20 o2_3 hJ19 (by omega) (by omega) hI
      · intro M v28_2 o28_3 hJ v28_20 v28_21 hI
        have hb : zHd _ := hb28 n (zi M) v28_2.toInt (zi_fr hJ.2) v28_20 v28_21 hI
        refine w_lo dX5_readFact_28 rfl rfl rfl rfl ?_
        refine w_bi dX5_readFact_29 (c := 91) (by decide) ?_
        refine w_iv dX5_readFact_31 rfl rfl (As := [.int 91]) rfl rfl hJ.1.1 zs_2 (Nat.le_of_ble_eq_true rfl) ?_
        obtain ⟨P24, hp25, hb⟩ := hb
        replace hb : zHd _ := hb
        have hp25c : b_1299 (zi M) (91 : Int32).toInt P24 := by rw [zt_91]; exact hp25
        refine ZV.imp (u_1299 91 (by have := zt_91; omega) (by have := zt_91; omega) hN hJ.1 hp25c) ?_
        rintro _ ⟨x27, M22, rfl, h28, h29, hJ23, hq26⟩
        replace hb : zHd _ := hb x27.toInt h28 h29 (zi M22) (zi_fr hJ23.2) hq26
        have hJ31 := zJ_trans hJ hJ23 zSub_nil
        show ZW _ _ _ _ _ _ _ (34, [some (.ref 2), some (.int 1), some (.int v28_2), o28_3], [.int x27], M22)
        rcases Int.decEq x27.toInt (0 : Int) with h32 | h32
        · skip
          replace hb : zHd _ := hb.1 h32
          refine w_ieq_f dX5_readFact_34 (t := 87) rfl (by omega) ?_
          refine w_lo dX5_readFact_37 rfl rfl rfl rfl ?_
          refine w_bi dX5_readFact_38 (c := 8) (by decide) ?_
          refine w_clt_t dX5_readFact_40 (t := 49) rfl (by have := zt_1; have := zt_8; omega) ?_
          refine w_lo dX5_readFact_49 rfl rfl rfl rfl ?_
          refine w_iv dX5_readFact_50 rfl rfl (As := []) rfl rfl hJ31.1.1 zs_2 (Nat.le_of_ble_eq_true rfl) ?_
          obtain ⟨P35, hp36, hb⟩ := hb
          replace hb : zHd _ := hb
          refine ZV.imp (u_1289 hN hJ31.1 hp36) ?_
          rintro _ ⟨M33, rfl, hJ34, hq37⟩
          replace hb : zHd _ := hb  (zi M33) (zi_fr hJ34.2) hq37
          have hJ39 := zJ_trans hJ31 hJ34 (zSub_cons (fun _ _ h h' hk => zIR_s (zIR_s (zIR_s (zIR_s (zIR_s (zIR_s (zIR_e (by omega) (by omega) hk))))))) zSub_nil)
          show ZW _ _ _ _ _ _ _ (53, [some (.ref 2), some (.int 1), some (.int v28_2), o28_3], [], M33)
          refine w_lo dX5_readFact_53 rfl rfl rfl rfl ?_
          refine w_lo dX5_readFact_54 rfl rfl rfl rfl ?_
          refine w_ic dX5_readFact_55 zi_1 ?_
          refine w_pu (st' := [.int 2, .ref 2]) dX5_readFact_56 rfl rfl ?_
          refine w_iv dX5_readFact_57 rfl rfl (As := [.int 2]) rfl rfl hJ39.1.1 zs_2 (Nat.le_of_ble_eq_true rfl) ?_
          obtain ⟨P42, hp43, hb⟩ := hb
          replace hb : zHd _ := hb
          refine ZV.imp (u_1300_c2 hN hJ39.1 hp43) ?_
          rintro _ ⟨x45, M40, rfl, h46, h47, hJ41, hq44⟩
          replace hb : zHd _ := hb x45.toInt h46 h47 (zi M40) (zi_fr hJ41.2) hq44
          have hJ49 := zJ_trans hJ39 hJ41 (zSub_cons (fun _ _ h h' hk => zIR_e (by omega) (by omega) hk) (zSub_cons (fun _ _ h h' hk => zIR_s (zIR_e (by omega) (by omega) hk)) (zSub_cons (fun _ _ h h' hk => zIR_s (zIR_s (zIR_e (by omega) (by omega) hk))) (zSub_cons (fun _ _ h h' hk => zIR_s (zIR_s (zIR_s (zIR_e (by omega) (by omega) hk)))) (zSub_cons (fun _ _ h h' hk => zIR_s (zIR_s (zIR_s (zIR_s (zIR_a (by omega) (by omega)))))) (zSub_cons (fun _ _ h h' hk => zIR_s (zIR_s (zIR_s (zIR_s (zIR_s (zIR_a (by omega) (by omega))))))) (zSub_cons (fun _ _ h h' hk => zIR_s (zIR_s (zIR_s (zIR_s (zIR_s (zIR_s (zIR_e (by omega) (by omega) hk))))))) zSub_nil)))))))
          show ZW _ _ _ _ _ _ _ (60, [some (.ref 2), some (.int 1), some (.int v28_2), o28_3], [.int x45], M40)
          rcases Int.decEq x45.toInt (0 : Int) with h50 | h50
          · skip
            replace hb : zHd _ := hb.1 h50
            refine w_ine_t dX5_readFact_60 (t := 65) rfl (by omega) ?_
            refine w_lo dX5_readFact_65 rfl rfl rfl rfl ?_
            refine w_bi dX5_readFact_66 (c := 93) (by decide) ?_
            refine w_iv dX5_readFact_68 rfl rfl (As := [.int 93]) rfl rfl hJ49.1.1 zs_2 (Nat.le_of_ble_eq_true rfl) ?_
            obtain ⟨P53, hp54, hb⟩ := hb
            replace hb : zHd _ := hb
            have hp54c : b_1299 (zi M40) (93 : Int32).toInt P53 := by rw [zt_93]; exact hp54
            refine ZV.imp (u_1299 93 (by have := zt_93; omega) (by have := zt_93; omega) hN hJ49.1 hp54c) ?_
            rintro _ ⟨x56, M51, rfl, h57, h58, hJ52, hq55⟩
            replace hb : zHd _ := hb x56.toInt h57 h58 (zi M51) (zi_fr hJ52.2) hq55
            have hJ60 := zJ_trans hJ49 hJ52 zSub_nil
            show ZW _ _ _ _ _ _ _ (71, [some (.ref 2), some (.int 1), some (.int v28_2), o28_3], [.int x56], M51)
            rcases Int.decEq x56.toInt (0 : Int) with h61 | h61
            · skip
              replace hb : zHd _ := hb.1 h61
              refine w_ine_t dX5_readFact_71 (t := 80) rfl (by omega) ?_
              refine w_lo dX5_readFact_80 rfl rfl rfl rfl ?_
              refine w_iv dX5_readFact_81 rfl rfl (As := []) rfl rfl hJ60.1.1 zs_2 (Nat.le_of_ble_eq_true rfl) ?_
              obtain ⟨P64, hp65, hb⟩ := hb
              replace hb : zHd _ := hb
              refine ZV.imp (u_1289 hN hJ60.1 hp65) ?_
              rintro _ ⟨M62, rfl, hJ63, hq66⟩
              replace hb : zHd _ := hb  (zi M62) (zi_fr hJ63.2) hq66
              have hJ68 := zJ_trans hJ60 hJ63 (zSub_cons (fun _ _ h h' hk => zIR_s (zIR_s (zIR_s (zIR_s (zIR_s (zIR_s (zIR_e (by omega) (by omega) hk))))))) zSub_nil)
              show ZW _ _ _ _ _ _ _ (84, [some (.ref 2), some (.int 1), some (.int v28_2), o28_3], [], M62)
              refine w_gt dX5_readFact_84 (t := 203) rfl ?_
              refine w_lo dX5_readFact_203 rfl rfl rfl rfl ?_
              refine w_ic dX5_readFact_204 zi_2 ?_
              refine w_remE dX5_readFact_205 (by omega) (by have := zt_2; omega) ?_
              intro x69 h70 h71 h72
              have := zt_2
              replace hb : zHd _ := hb x69.toInt h70 (by omega) (by rw [h72, zt_2])
              refine w_ic dX5_readFact_206 zi_1 ?_
              rcases Int.decEq x69.toInt (1 : Int) with h73 | h73
              · skip
                replace hb : zHd _ := hb.1 h73
                refine w_cne_t dX5_readFact_207 (t := 222) rfl (by have := zt_1; omega) ?_
                refine w_ic dX5_readFact_222 zi_1 ?_
                refine w_en dX5_readFact_223 rfl ?_
                exact ⟨_, _, rfl, (by have := zt_1; omega), (by have := zt_1; omega), hJ68, hb⟩
              · skip
                replace hb : zHd _ := hb.2 h73
                refine w_cne_f dX5_readFact_207 (t := 222) rfl (by have := zt_1; omega) ?_
                refine w_lo dX5_readFact_210 rfl rfl rfl rfl ?_
                obtain ⟨b74, f75, h76⟩ := zd_2_8 hJ68.1
                have h77 := zDm_b h76
                refine w_gf dX5_readFact_211 rfl hJ68.1.1 zs_2 f75 ?_
                replace hb : zHd _ := hb b74 (ziR f75) (zDm_or h76)
                refine w_gf dX5_readFact_214 rfl hJ68.1.1 (zs_1_0 h76) (zr_1_0_15 h76 hJ68.1) ?_
                refine w_bi dX5_readFact_217 (c := (-8)) (by decide) ?_
                refine w_iv dX5_readFact_219 rfl rfl (As := [.int (-8)]) rfl rfl hJ68.1.1 (zs_1_13 h76) (Nat.le_of_ble_eq_true rfl) ?_
                obtain ⟨P80, hp81, hb⟩ := hb
                replace hb : zHd _ := hb
                have hp81c : b_515 (b74 + 13) (zi M62) ((-8) : Int32).toInt P80 := by rw [zt_m8]; exact hp81
                refine ZV.imp (u_515 (b74 + 13) (zLw_of h76) (-8) hN hJ68.1 hp81c) ?_
                rintro _ ⟨M78, rfl, hJ79, hq82⟩
                replace hb : zHd _ := hb  (zi M78) (zi_fr hJ79.2) hq82
                have hJ84 := zJ_trans hJ68 hJ79 (zSub_cons (fun _ _ h h' hk => ((zDm_or h76).elim (fun e => zIR_s (zIR_s (zIR_e (by omega) (by omega) hk))) (fun e => zIR_s (zIR_s (zIR_s (zIR_e (by omega) (by omega) hk)))))) (zSub_cons (fun _ _ h h' hk => ((zDm_or h76).elim (fun e => zIR_s (zIR_s (zIR_s (zIR_s (zIR_a (by omega) (by omega)))))) (fun e => zIR_s (zIR_s (zIR_s (zIR_s (zIR_s (zIR_a (by omega) (by omega))))))))) zSub_nil))
                show ZW _ _ _ _ _ _ _ (222, [some (.ref 2), some (.int 1), some (.int v28_2), o28_3], [], M78)
                refine w_ic dX5_readFact_222 zi_1 ?_
                refine w_en dX5_readFact_223 rfl ?_
                exact ⟨_, _, rfl, (by have := zt_1; omega), (by have := zt_1; omega), hJ84, hb⟩
            · skip
              replace hb : zHd _ := hb.2 h61
              refine w_ine_f dX5_readFact_71 (t := 80) rfl (by omega) ?_
              refine w_lo dX5_readFact_74 rfl rfl rfl rfl ?_
              refine w_ic dX5_readFact_75 zi_1 ?_
              refine w_iv dX5_readFact_76 rfl rfl (As := [.int 1]) rfl rfl hJ60.1.1 zs_2 (Nat.le_of_ble_eq_true rfl) ?_
              obtain ⟨P87, hp88, hb⟩ := hb
              replace hb : zHd _ := hb
              have hp88c : b_1286 (zi M51) (1 : Int32).toInt P87 := by rw [zt_1]; exact hp88
              refine ZV.imp (u_1286 1 (by have := zt_1; omega) (by have := zt_1; omega) hN hJ60.1 hp88c) ?_
              rintro _ ⟨x90, M85, rfl, h91, h92, hJ86, hq89⟩
              replace hb : zHd _ := hb x90.toInt h91 h92 (zi M85) (zi_fr hJ86.2) hq89
              have hJ94 := zJ_trans hJ60 hJ86 (zSub_cons (fun _ _ h h' hk => zIR_e (by omega) (by omega) hk) (zSub_cons (fun _ _ h h' hk => zIR_s (zIR_e (by omega) (by omega) hk)) zSub_nil))
              show ZW _ _ _ _ _ _ _ (79, [some (.ref 2), some (.int 1), some (.int v28_2), o28_3], [.int x90], M85)
              refine w_eni dX5_readFact_79 rfl (znb (by omega) (by omega)) ?_
              exact ⟨_, _, rfl, (by omega), (by omega), hJ94, hb⟩
          · skip
            replace hb : zHd _ := hb.2 h50
            refine w_ine_f dX5_readFact_60 (t := 65) rfl (by omega) ?_
            refine w_ic dX5_readFact_63 zi_0 ?_
            refine w_en dX5_readFact_64 rfl ?_
            exact ⟨_, _, rfl, (by have := zt_0; omega), (by have := zt_0; omega), hJ49, hb⟩
        · skip
          replace hb : zHd _ := hb.2 h32
          refine w_ieq_t dX5_readFact_34 (t := 87) rfl (by omega) ?_
          refine w_lo dX5_readFact_87 rfl rfl rfl rfl ?_
          refine w_iv dX5_readFact_88 rfl rfl (As := []) rfl rfl hJ31.1.1 zs_2 (Nat.le_of_ble_eq_true rfl) ?_
          obtain ⟨P97, hp98, hb⟩ := hb
          replace hb : zHd _ := hb
          refine ZV.imp (u_1287 hN hJ31.1 hp98) ?_
          rintro _ ⟨x100, M95, rfl, h101, h102, hJ96, hq99⟩
          replace hb : zHd _ := hb x100.toInt h101 h102 (zi M95) (zi_fr hJ96.2) hq99
          have hJ104 := zJ_trans hJ31 hJ96 zSub_nil
          show ZW _ _ _ _ _ _ _ (91, [some (.ref 2), some (.int 1), some (.int v28_2), o28_3], [.int x100], M95)
          refine w_bi dX5_readFact_91 (c := 24) (by decide) ?_
          rcases Int.decEq x100.toInt (24 : Int) with h105 | h105
          · skip
            replace hb : zHd _ := hb.1 h105
            refine w_cne_t dX5_readFact_93 (t := 114) rfl (by have := zt_24; omega) ?_
            refine w_lo dX5_readFact_114 rfl rfl rfl rfl ?_
            refine w_lo dX5_readFact_115 rfl rfl rfl rfl ?_
            refine w_iv dX5_readFact_116 rfl rfl (As := [.int 1]) rfl rfl hJ104.1.1 zs_2 (Nat.le_of_ble_eq_true rfl) ?_
            obtain ⟨P108, hp109, hb⟩ := hb
            replace hb : zHd _ := hb
            refine ZV.imp (u_1297_c1 hN hJ104.1 hp109) ?_
            rintro _ ⟨x111, M106, rfl, h112, h113, hJ107, hq110⟩
            replace hb : zHd _ := hb x111.toInt h112 h113 (zi M106) (zi_fr hJ107.2) hq110
            have hJ115 := zJ_trans hJ104 hJ107 (zSub_cons (fun _ _ h h' hk => zIR_e (by omega) (by omega) hk) (zSub_cons (fun _ _ h h' hk => zIR_s (zIR_e (by omega) (by omega) hk)) (zSub_cons (fun _ _ h h' hk => zIR_s (zIR_s (zIR_e (by omega) (by omega) hk))) (zSub_cons (fun _ _ h h' hk => zIR_s (zIR_s (zIR_s (zIR_e (by omega) (by omega) hk)))) (zSub_cons (fun _ _ h h' hk => zIR_s (zIR_s (zIR_s (zIR_s (zIR_a (by omega) (by omega)))))) (zSub_cons (fun _ _ h h' hk => zIR_s (zIR_s (zIR_s (zIR_s (zIR_s (zIR_a (by omega) (by omega))))))) (zSub_cons (fun _ _ h h' hk => zIR_s (zIR_s (zIR_s (zIR_s (zIR_s (zIR_s (zIR_e (by omega) (by omega) hk))))))) zSub_nil)))))))
            show ZW _ _ _ _ _ _ _ (119, [some (.ref 2), some (.int 1), some (.int v28_2), o28_3], [.int x111], M106)
            rcases Int.decEq x111.toInt (0 : Int) with h116 | h116
            · skip
              replace hb : zHd _ := hb.1 h116
              refine w_ine_t dX5_readFact_119 (t := 124) rfl (by omega) ?_
              refine w_lo dX5_readFact_124 rfl rfl rfl rfl ?_
              refine w_bi dX5_readFact_125 (c := 60) (by decide) ?_
              refine w_iv dX5_readFact_127 rfl rfl (As := [.int 60]) rfl rfl hJ115.1.1 zs_2 (Nat.le_of_ble_eq_true rfl) ?_
              obtain ⟨P119, hp120, hb⟩ := hb
              replace hb : zHd _ := hb
              have hp120c : b_1299 (zi M106) (60 : Int32).toInt P119 := by rw [zt_60]; exact hp120
              refine ZV.imp (u_1299 60 (by have := zt_60; omega) (by have := zt_60; omega) hN hJ115.1 hp120c) ?_
              rintro _ ⟨x122, M117, rfl, h123, h124, hJ118, hq121⟩
              replace hb : zHd _ := hb x122.toInt h123 h124 (zi M117) (zi_fr hJ118.2) hq121
              have hJ126 := zJ_trans hJ115 hJ118 zSub_nil
              show ZW _ _ _ _ _ _ _ (130, [some (.ref 2), some (.int 1), some (.int v28_2), o28_3], [.int x122], M117)
              rcases Int.decEq x122.toInt (0 : Int) with h127 | h127
              · skip
                replace hb : zHd _ := hb.1 h127
                refine w_ieq_f dX5_readFact_130 (t := 138) rfl (by omega) ?_
                refine w_bi dX5_readFact_133 (c := (-14)) (by decide) ?_
                refine w_gt dX5_readFact_135 (t := 167) rfl ?_
                obtain ⟨m, hm, hI⟩ := hb
                exact (ih m hm).2.2 M117 v28_2 o28_3 (-14) hJ126 (by omega) (by omega) (by have := zt_m14; omega) (by have := zt_m14; omega) hI
              · skip
                replace hb : zHd _ := hb.2 h127
                refine w_ieq_t dX5_readFact_130 (t := 138) rfl (by omega) ?_
                refine w_lo dX5_readFact_138 rfl rfl rfl rfl ?_
                refine w_bi dX5_readFact_139 (c := 62) (by decide) ?_
                refine w_iv dX5_readFact_141 rfl rfl (As := [.int 62]) rfl rfl hJ126.1.1 zs_2 (Nat.le_of_ble_eq_true rfl) ?_
                obtain ⟨P130, hp131, hb⟩ := hb
                replace hb : zHd _ := hb
                have hp131c : b_1299 (zi M117) (62 : Int32).toInt P130 := by rw [zt_62]; exact hp131
                refine ZV.imp (u_1299 62 (by have := zt_62; omega) (by have := zt_62; omega) hN hJ126.1 hp131c) ?_
                rintro _ ⟨x133, M128, rfl, h134, h135, hJ129, hq132⟩
                replace hb : zHd _ := hb x133.toInt h134 h135 (zi M128) (zi_fr hJ129.2) hq132
                have hJ137 := zJ_trans hJ126 hJ129 zSub_nil
                show ZW _ _ _ _ _ _ _ (144, [some (.ref 2), some (.int 1), some (.int v28_2), o28_3], [.int x133], M128)
                rcases Int.decEq x133.toInt (0 : Int) with h138 | h138
                · skip
                  replace hb : zHd _ := hb.1 h138
                  refine w_ieq_f dX5_readFact_144 (t := 152) rfl (by omega) ?_
                  refine w_bi dX5_readFact_147 (c := (-15)) (by decide) ?_
                  refine w_gt dX5_readFact_149 (t := 167) rfl ?_
                  obtain ⟨m, hm, hI⟩ := hb
                  exact (ih m hm).2.2 M128 v28_2 o28_3 (-15) hJ137 (by omega) (by omega) (by have := zt_m15; omega) (by have := zt_m15; omega) hI
                · skip
                  replace hb : zHd _ := hb.2 h138
                  refine w_ieq_t dX5_readFact_144 (t := 152) rfl (by omega) ?_
                  refine w_lo dX5_readFact_152 rfl rfl rfl rfl ?_
                  refine w_bi dX5_readFact_153 (c := 61) (by decide) ?_
                  refine w_iv dX5_readFact_155 rfl rfl (As := [.int 61]) rfl rfl hJ137.1.1 zs_2 (Nat.le_of_ble_eq_true rfl) ?_
                  obtain ⟨P141, hp142, hb⟩ := hb
                  replace hb : zHd _ := hb
                  have hp142c : b_1299 (zi M128) (61 : Int32).toInt P141 := by rw [zt_61]; exact hp142
                  refine ZV.imp (u_1299 61 (by have := zt_61; omega) (by have := zt_61; omega) hN hJ137.1 hp142c) ?_
                  rintro _ ⟨x144, M139, rfl, h145, h146, hJ140, hq143⟩
                  replace hb : zHd _ := hb x144.toInt h145 h146 (zi M139) (zi_fr hJ140.2) hq143
                  have hJ148 := zJ_trans hJ137 hJ140 zSub_nil
                  show ZW _ _ _ _ _ _ _ (158, [some (.ref 2), some (.int 1), some (.int v28_2), o28_3], [.int x144], M139)
                  rcases Int.decEq x144.toInt (0 : Int) with h149 | h149
                  · skip
                    replace hb : zHd _ := hb.1 h149
                    refine w_ieq_f dX5_readFact_158 (t := 166) rfl (by omega) ?_
                    refine w_bi dX5_readFact_161 (c := (-16)) (by decide) ?_
                    refine w_gt dX5_readFact_163 (t := 167) rfl ?_
                    obtain ⟨m, hm, hI⟩ := hb
                    exact (ih m hm).2.2 M139 v28_2 o28_3 (-16) hJ148 (by omega) (by omega) (by have := zt_m16; omega) (by have := zt_m16; omega) hI
                  · skip
                    replace hb : zHd _ := hb.2 h149
                    refine w_ieq_t dX5_readFact_158 (t := 166) rfl (by omega) ?_
                    refine w_ic dX5_readFact_166 zi_0 ?_
                    obtain ⟨m, hm, hI⟩ := hb
                    exact (ih m hm).2.2 M139 v28_2 o28_3 0 hJ148 (by omega) (by omega) (by have := zt_0; omega) (by have := zt_0; omega) hI
            · skip
              replace hb : zHd _ := hb.2 h116
              refine w_ine_f dX5_readFact_119 (t := 124) rfl (by omega) ?_
              refine w_ic dX5_readFact_122 zi_0 ?_
              refine w_en dX5_readFact_123 rfl ?_
              exact ⟨_, _, rfl, (by have := zt_0; omega), (by have := zt_0; omega), hJ115, hb⟩
          · skip
            replace hb : zHd _ := hb.2 h105
            refine w_cne_f dX5_readFact_93 (t := 114) rfl (by have := zt_24; omega) ?_
            refine w_lo dX5_readFact_96 rfl rfl rfl rfl ?_
            refine w_iv dX5_readFact_97 rfl rfl (As := []) rfl rfl hJ104.1.1 zs_2 (Nat.le_of_ble_eq_true rfl) ?_
            obtain ⟨P152, hp153, hb⟩ := hb
            replace hb : zHd _ := hb
            refine ZV.imp (u_1289 hN hJ104.1 hp153) ?_
            rintro _ ⟨M150, rfl, hJ151, hq154⟩
            replace hb : zHd _ := hb  (zi M150) (zi_fr hJ151.2) hq154
            have hJ156 := zJ_trans hJ104 hJ151 (zSub_cons (fun _ _ h h' hk => zIR_s (zIR_s (zIR_s (zIR_s (zIR_s (zIR_s (zIR_e (by omega) (by omega) hk))))))) zSub_nil)
            show ZW _ _ _ _ _ _ _ (100, [some (.ref 2), some (.int 1), some (.int v28_2), o28_3], [], M150)
            refine w_lo dX5_readFact_100 rfl rfl rfl rfl ?_
            obtain ⟨b157, f158, h159⟩ := zd_2_8 hJ156.1
            have h160 := zDm_b h159
            refine w_gf dX5_readFact_101 rfl hJ156.1.1 zs_2 f158 ?_
            replace hb : zHd _ := hb b157 (ziR f158) (zDm_or h159)
            refine w_gf dX5_readFact_104 rfl hJ156.1.1 (zs_1_0 h159) (zr_1_0_15 h159 hJ156.1) ?_
            refine w_ic dX5_readFact_107 zi_1 ?_
            refine w_iv dX5_readFact_108 rfl rfl (As := [.int 1]) rfl rfl hJ156.1.1 (zs_1_13 h159) (Nat.le_of_ble_eq_true rfl) ?_
            obtain ⟨P163, hp164, hb⟩ := hb
            replace hb : zHd _ := hb
            have hp164c : b_515 (b157 + 13) (zi M150) (1 : Int32).toInt P163 := by rw [zt_1]; exact hp164
            refine ZV.imp (u_515 (b157 + 13) (zLw_of h159) 1 hN hJ156.1 hp164c) ?_
            rintro _ ⟨M161, rfl, hJ162, hq165⟩
            replace hb : zHd _ := hb  (zi M161) (zi_fr hJ162.2) hq165
            have hJ167 := zJ_trans hJ156 hJ162 (zSub_cons (fun _ _ h h' hk => ((zDm_or h159).elim (fun e => zIR_s (zIR_s (zIR_e (by omega) (by omega) hk))) (fun e => zIR_s (zIR_s (zIR_s (zIR_e (by omega) (by omega) hk)))))) (zSub_cons (fun _ _ h h' hk => ((zDm_or h159).elim (fun e => zIR_s (zIR_s (zIR_s (zIR_s (zIR_a (by omega) (by omega)))))) (fun e => zIR_s (zIR_s (zIR_s (zIR_s (zIR_s (zIR_a (by omega) (by omega))))))))) zSub_nil))
            show ZW _ _ _ _ _ _ _ (111, [some (.ref 2), some (.int 1), some (.int v28_2), o28_3], [], M161)
            refine w_gt dX5_readFact_111 (t := 203) rfl ?_
            refine w_lo dX5_readFact_203 rfl rfl rfl rfl ?_
            refine w_ic dX5_readFact_204 zi_2 ?_
            refine w_remE dX5_readFact_205 (by omega) (by have := zt_2; omega) ?_
            intro x168 h169 h170 h171
            have := zt_2
            replace hb : zHd _ := hb x168.toInt h169 (by omega) (by rw [h171, zt_2])
            refine w_ic dX5_readFact_206 zi_1 ?_
            rcases Int.decEq x168.toInt (1 : Int) with h172 | h172
            · skip
              replace hb : zHd _ := hb.1 h172
              refine w_cne_t dX5_readFact_207 (t := 222) rfl (by have := zt_1; omega) ?_
              refine w_ic dX5_readFact_222 zi_1 ?_
              refine w_en dX5_readFact_223 rfl ?_
              exact ⟨_, _, rfl, (by have := zt_1; omega), (by have := zt_1; omega), hJ167, hb⟩
            · skip
              replace hb : zHd _ := hb.2 h172
              refine w_cne_f dX5_readFact_207 (t := 222) rfl (by have := zt_1; omega) ?_
              refine w_lo dX5_readFact_210 rfl rfl rfl rfl ?_
              have f173 := (hJ162.2 (2) 8 (zNI_k (by decide) (by decide) (zNI (by omega) zNI_nil))).trans (f158)
              refine w_gf dX5_readFact_211 rfl hJ167.1.1 zs_2 f173 ?_
              refine w_gf dX5_readFact_214 rfl hJ167.1.1 (zs_1_0 h159) (zr_1_0_15 h159 hJ167.1) ?_
              refine w_bi dX5_readFact_217 (c := (-8)) (by decide) ?_
              refine w_iv dX5_readFact_219 rfl rfl (As := [.int (-8)]) rfl rfl hJ167.1.1 (zs_1_13 h159) (Nat.le_of_ble_eq_true rfl) ?_
              obtain ⟨P176, hp177, hb⟩ := hb
              replace hb : zHd _ := hb
              have hp177c : b_515 (b157 + 13) (zi M161) ((-8) : Int32).toInt P176 := by rw [zt_m8]; exact hp177
              refine ZV.imp (u_515 (b157 + 13) (zLw_of h159) (-8) hN hJ167.1 hp177c) ?_
              rintro _ ⟨M174, rfl, hJ175, hq178⟩
              replace hb : zHd _ := hb  (zi M174) (zi_fr hJ175.2) hq178
              have hJ180 := zJ_trans hJ167 hJ175 (zSub_cons (fun _ _ h h' hk => ((zDm_or h159).elim (fun e => zIR_s (zIR_s (zIR_e (by omega) (by omega) hk))) (fun e => zIR_s (zIR_s (zIR_s (zIR_e (by omega) (by omega) hk)))))) (zSub_cons (fun _ _ h h' hk => ((zDm_or h159).elim (fun e => zIR_s (zIR_s (zIR_s (zIR_s (zIR_a (by omega) (by omega)))))) (fun e => zIR_s (zIR_s (zIR_s (zIR_s (zIR_s (zIR_a (by omega) (by omega))))))))) zSub_nil))
              show ZW _ _ _ _ _ _ _ (222, [some (.ref 2), some (.int 1), some (.int v28_2), o28_3], [], M174)
              refine w_ic dX5_readFact_222 zi_1 ?_
              refine w_en dX5_readFact_223 rfl ?_
              exact ⟨_, _, rfl, (by have := zt_1; omega), (by have := zt_1; omega), hJ180, hb⟩
      · intro M v167_2 o167_3 s167_0 hJ v167_20 v167_21 s167_00 s167_01 hI
        have hb : zHd _ := hb167 n (zi M) v167_2.toInt s167_0.toInt (zi_fr hJ.2) v167_20 v167_21 s167_00 s167_01 hI
        refine w_lo (ml' := [some (.ref 2), some (.int 1), some (.int v167_2), some (.int s167_0)]) dX5_readFact_167 rfl rfl rfl rfl ?_
        refine w_lo dX5_readFact_168 rfl rfl rfl rfl ?_
        rcases Int.decEq s167_0.toInt (0 : Int) with h181 | h181
        · skip
          replace hb : zHd _ := hb.1 h181
          refine w_ine_t dX5_readFact_169 (t := 178) rfl (by omega) ?_
          refine w_lo dX5_readFact_178 rfl rfl rfl rfl ?_
          refine w_iv dX5_readFact_179 rfl rfl (As := []) rfl rfl hJ.1.1 zs_2 (Nat.le_of_ble_eq_true rfl) ?_
          obtain ⟨P184, hp185, hb⟩ := hb
          replace hb : zHd _ := hb
          refine ZV.imp (u_1289 hN hJ.1 hp185) ?_
          rintro _ ⟨M182, rfl, hJ183, hq186⟩
          replace hb : zHd _ := hb  (zi M182) (zi_fr hJ183.2) hq186
          have hJ188 := zJ_trans hJ hJ183 (zSub_cons (fun _ _ h h' hk => zIR_s (zIR_s (zIR_s (zIR_s (zIR_s (zIR_s (zIR_e (by omega) (by omega) hk))))))) zSub_nil)
          show ZW _ _ _ _ _ _ _ (182, [some (.ref 2), some (.int 1), some (.int v167_2), some (.int s167_0)], [], M182)
          refine w_lo dX5_readFact_182 rfl rfl rfl rfl ?_
          refine w_lo dX5_readFact_183 rfl rfl rfl rfl ?_
          refine w_iv dX5_readFact_184 rfl rfl (As := [.int 1]) rfl rfl hJ188.1.1 zs_2 (Nat.le_of_ble_eq_true rfl) ?_
          obtain ⟨P191, hp192, hb⟩ := hb
          replace hb : zHd _ := hb
          refine ZV.imp (u_1297_c1 hN hJ188.1 hp192) ?_
          rintro _ ⟨x194, M189, rfl, h195, h196, hJ190, hq193⟩
          replace hb : zHd _ := hb x194.toInt h195 h196 (zi M189) (zi_fr hJ190.2) hq193
          have hJ198 := zJ_trans hJ188 hJ190 (zSub_cons (fun _ _ h h' hk => zIR_e (by omega) (by omega) hk) (zSub_cons (fun _ _ h h' hk => zIR_s (zIR_e (by omega) (by omega) hk)) (zSub_cons (fun _ _ h h' hk => zIR_s (zIR_s (zIR_e (by omega) (by omega) hk))) (zSub_cons (fun _ _ h h' hk => zIR_s (zIR_s (zIR_s (zIR_e (by omega) (by omega) hk)))) (zSub_cons (fun _ _ h h' hk => zIR_s (zIR_s (zIR_s (zIR_s (zIR_a (by omega) (by omega)))))) (zSub_cons (fun _ _ h h' hk => zIR_s (zIR_s (zIR_s (zIR_s (zIR_s (zIR_a (by omega) (by omega))))))) (zSub_cons (fun _ _ h h' hk => zIR_s (zIR_s (zIR_s (zIR_s (zIR_s (zIR_s (zIR_e (by omega) (by omega) hk))))))) zSub_nil)))))))
          show ZW _ _ _ _ _ _ _ (187, [some (.ref 2), some (.int 1), some (.int v167_2), some (.int s167_0)], [.int x194], M189)
          rcases Int.decEq x194.toInt (0 : Int) with h199 | h199
          · skip
            replace hb : zHd _ := hb.1 h199
            refine w_ine_t dX5_readFact_187 (t := 192) rfl (by omega) ?_
            refine w_lo dX5_readFact_192 rfl rfl rfl rfl ?_
            obtain ⟨b200, f201, h202⟩ := zd_2_8 hJ198.1
            have h203 := zDm_b h202
            refine w_gf dX5_readFact_193 rfl hJ198.1.1 zs_2 f201 ?_
            replace hb : zHd _ := hb b200 (ziR f201) (zDm_or h202)
            refine w_gf dX5_readFact_196 rfl hJ198.1.1 (zs_1_0 h202) (zr_1_0_15 h202 hJ198.1) ?_
            refine w_lo dX5_readFact_199 rfl rfl rfl rfl ?_
            refine w_iv dX5_readFact_200 rfl rfl (As := [.int s167_0]) rfl rfl hJ198.1.1 (zs_1_13 h202) (Nat.le_of_ble_eq_true rfl) ?_
            obtain ⟨P206, hp207, hb⟩ := hb
            replace hb : zHd _ := hb
            refine ZV.imp (u_515 (b200 + 13) (zLw_of h202) s167_0 hN hJ198.1 hp207) ?_
            rintro _ ⟨M204, rfl, hJ205, hq208⟩
            replace hb : zHd _ := hb  (zi M204) (zi_fr hJ205.2) hq208
            have hJ210 := zJ_trans hJ198 hJ205 (zSub_cons (fun _ _ h h' hk => ((zDm_or h202).elim (fun e => zIR_s (zIR_s (zIR_e (by omega) (by omega) hk))) (fun e => zIR_s (zIR_s (zIR_s (zIR_e (by omega) (by omega) hk)))))) (zSub_cons (fun _ _ h h' hk => ((zDm_or h202).elim (fun e => zIR_s (zIR_s (zIR_s (zIR_s (zIR_a (by omega) (by omega)))))) (fun e => zIR_s (zIR_s (zIR_s (zIR_s (zIR_s (zIR_a (by omega) (by omega))))))))) zSub_nil))
            show ZW _ _ _ _ _ _ _ (203, [some (.ref 2), some (.int 1), some (.int v167_2), some (.int s167_0)], [], M204)
            refine w_lo dX5_readFact_203 rfl rfl rfl rfl ?_
            refine w_ic dX5_readFact_204 zi_2 ?_
            refine w_remE dX5_readFact_205 (by omega) (by have := zt_2; omega) ?_
            intro x211 h212 h213 h214
            have := zt_2
            replace hb : zHd _ := hb x211.toInt h212 (by omega) (by rw [h214, zt_2])
            refine w_ic dX5_readFact_206 zi_1 ?_
            rcases Int.decEq x211.toInt (1 : Int) with h215 | h215
            · skip
              replace hb : zHd _ := hb.1 h215
              refine w_cne_t dX5_readFact_207 (t := 222) rfl (by have := zt_1; omega) ?_
              refine w_ic dX5_readFact_222 zi_1 ?_
              refine w_en dX5_readFact_223 rfl ?_
              exact ⟨_, _, rfl, (by have := zt_1; omega), (by have := zt_1; omega), hJ210, hb⟩
            · skip
              replace hb : zHd _ := hb.2 h215
              refine w_cne_f dX5_readFact_207 (t := 222) rfl (by have := zt_1; omega) ?_
              refine w_lo dX5_readFact_210 rfl rfl rfl rfl ?_
              have f216 := (hJ205.2 (2) 8 (zNI_k (by decide) (by decide) (zNI (by omega) zNI_nil))).trans (f201)
              refine w_gf dX5_readFact_211 rfl hJ210.1.1 zs_2 f216 ?_
              refine w_gf dX5_readFact_214 rfl hJ210.1.1 (zs_1_0 h202) (zr_1_0_15 h202 hJ210.1) ?_
              refine w_bi dX5_readFact_217 (c := (-8)) (by decide) ?_
              refine w_iv dX5_readFact_219 rfl rfl (As := [.int (-8)]) rfl rfl hJ210.1.1 (zs_1_13 h202) (Nat.le_of_ble_eq_true rfl) ?_
              obtain ⟨P219, hp220, hb⟩ := hb
              replace hb : zHd _ := hb
              have hp220c : b_515 (b200 + 13) (zi M204) ((-8) : Int32).toInt P219 := by rw [zt_m8]; exact hp220
              refine ZV.imp (u_515 (b200 + 13) (zLw_of h202) (-8) hN hJ210.1 hp220c) ?_
              rintro _ ⟨M217, rfl, hJ218, hq221⟩
              replace hb : zHd _ := hb  (zi M217) (zi_fr hJ218.2) hq221
              have hJ223 := zJ_trans hJ210 hJ218 (zSub_cons (fun _ _ h h' hk => ((zDm_or h202).elim (fun e => zIR_s (zIR_s (zIR_e (by omega) (by omega) hk))) (fun e => zIR_s (zIR_s (zIR_s (zIR_e (by omega) (by omega) hk)))))) (zSub_cons (fun _ _ h h' hk => ((zDm_or h202).elim (fun e => zIR_s (zIR_s (zIR_s (zIR_s (zIR_a (by omega) (by omega)))))) (fun e => zIR_s (zIR_s (zIR_s (zIR_s (zIR_s (zIR_a (by omega) (by omega))))))))) zSub_nil))
              show ZW _ _ _ _ _ _ _ (222, [some (.ref 2), some (.int 1), some (.int v167_2), some (.int s167_0)], [], M217)
              refine w_ic dX5_readFact_222 zi_1 ?_
              refine w_en dX5_readFact_223 rfl ?_
              exact ⟨_, _, rfl, (by have := zt_1; omega), (by have := zt_1; omega), hJ223, hb⟩
          · skip
            replace hb : zHd _ := hb.2 h199
            refine w_ine_f dX5_readFact_187 (t := 192) rfl (by omega) ?_
            refine w_ic dX5_readFact_190 zi_0 ?_
            refine w_en dX5_readFact_191 rfl ?_
            exact ⟨_, _, rfl, (by have := zt_0; omega), (by have := zt_0; omega), hJ198, hb⟩
        · skip
          replace hb : zHd _ := hb.2 h181
          refine w_ine_f dX5_readFact_169 (t := 178) rfl (by omega) ?_
          refine w_lo dX5_readFact_172 rfl rfl rfl rfl ?_
          refine w_ic dX5_readFact_173 zi_1 ?_
          refine w_iv dX5_readFact_174 rfl rfl (As := [.int 1]) rfl rfl hJ.1.1 zs_2 (Nat.le_of_ble_eq_true rfl) ?_
          obtain ⟨P226, hp227, hb⟩ := hb
          replace hb : zHd _ := hb
          have hp227c : b_1286 (zi M) (1 : Int32).toInt P226 := by rw [zt_1]; exact hp227
          refine ZV.imp (u_1286 1 (by have := zt_1; omega) (by have := zt_1; omega) hN hJ.1 hp227c) ?_
          rintro _ ⟨x229, M224, rfl, h230, h231, hJ225, hq228⟩
          replace hb : zHd _ := hb x229.toInt h230 h231 (zi M224) (zi_fr hJ225.2) hq228
          have hJ233 := zJ_trans hJ hJ225 (zSub_cons (fun _ _ h h' hk => zIR_e (by omega) (by omega) hk) (zSub_cons (fun _ _ h h' hk => zIR_s (zIR_e (by omega) (by omega) hk)) zSub_nil))
          show ZW _ _ _ _ _ _ _ (177, [some (.ref 2), some (.int 1), some (.int v167_2), some (.int s167_0)], [.int x229], M224)
          refine w_eni dX5_readFact_177 rfl (znb (by omega) (by omega)) ?_
          exact ⟨_, _, rfl, (by omega), (by omega), hJ233, hb⟩
  have hb : zHd _ := hbE
  show ZW _ _ _ _ _ _ _ (0, [some (.ref 2), some (.int 1), none, none], [], M0)
  refine w_ic dX5_readFact_0 zi_0 ?_
  refine w_lo (ml' := [some (.ref 2), some (.int 1), some (.int 0), none]) dX5_readFact_1 rfl rfl rfl rfl ?_
  obtain ⟨m, hI⟩ := hb
  exact (main m).1 M0 0 none hJ0 (by have := zt_0; omega) (by have := zt_0; omega) hI
set_option maxRecDepth 100000 in
theorem u_1300_c1 {X : List Int32} {d N : Nat} {M0 : zM}  (hN : N ≤ 600) (hB0 : zB N M0) {Q : Int → zF → Prop} (hb : b_1300_c1 (zi M0) Q) : ZV X (d + 19) 1300 [.ref 2, .int 1] M0 (zRI N [(2, 3, 0), (2, 3, 1), (20, 21, 1), (41, 42, 1), (21, 22, 1000), (42, 43, 1000), (2, 3, 7)] M0 (0) (1) (fun v M' => Q v.toInt (zi M'))) := by
  have hJ0 : zJ N [(2, 3, 0), (2, 3, 1), (20, 21, 1), (41, 42, 1), (21, 22, 1000), (42, 43, 1000), (2, 3, 7)] M0 M0 := zJ_refl hB0
  refine ZV.of (ini := false) rfl (Nat.le_of_ble_eq_true rfl) (by decide +kernel) ?_
  obtain ⟨I2, I11, I44, I66, hbE, hb2, hb11, hb44, hb66⟩ := hb
  replace hbE : zHd _ := hbE
  replace hb2 : zHd _ := hb2
  replace hb11 : zHd _ := hb11
  replace hb44 : zHd _ := hb44
  replace hb66 : zHd _ := hb66
  have main : ∀ n : Nat,
      (∀ (M : zM) (v2_2 : Int32) (o2_3 : Option Value), zJ N [(2, 3, 0), (2, 3, 1), (20, 21, 1), (41, 42, 1), (21, 22, 1000), (42, 43, 1000), (2, 3, 7)] M0 M → ((0 : Int) ≤ v2_2.toInt) → (v2_2.toInt ≤ 1601) → I2 n (zi M) v2_2.toInt → ZW X (d + 18) 5 false (some .boolean) cX5_readTest (zRI N [(2, 3, 0), (2, 3, 1), (20, 21, 1), (41, 42, 1), (21, 22, 1000), (42, 43, 1000), (2, 3, 7)] M0 (0) (1) (fun v M' => Q v.toInt (zi M'))) (2, [some (.ref 2), some (.int 1), some (.int v2_2), o2_3], [], M)) ∧
      (∀ (M : zM) (v11_2 : Int32) (v11_3 : Int32), zJ N [(2, 3, 0), (2, 3, 1), (20, 21, 1), (41, 42, 1), (21, 22, 1000), (42, 43, 1000), (2, 3, 7)] M0 M → ((0 : Int) ≤ v11_2.toInt) → (v11_2.toInt ≤ 1600) → ((0 : Int) ≤ v11_3.toInt) → (v11_3.toInt ≤ 1601) → I11 n (zi M) v11_2.toInt v11_3.toInt → ZW X (d + 18) 5 false (some .boolean) cX5_readTest (zRI N [(2, 3, 0), (2, 3, 1), (20, 21, 1), (41, 42, 1), (21, 22, 1000), (42, 43, 1000), (2, 3, 7)] M0 (0) (1) (fun v M' => Q v.toInt (zi M'))) (11, [some (.ref 2), some (.int 1), some (.int v11_2), some (.int v11_3)], [], M)) ∧
      (∀ (M : zM) (v44_2 : Int32) (v44_3 : Int32), zJ N [(2, 3, 0), (2, 3, 1), (20, 21, 1), (41, 42, 1), (21, 22, 1000), (42, 43, 1000), (2, 3, 7)] M0 M → ((0 : Int) ≤ v44_2.toInt) → (v44_2.toInt ≤ 1600) → ((0 : Int) ≤ v44_3.toInt) → (v44_3.toInt ≤ 1600) → I44 n (zi M) v44_2.toInt v44_3.toInt → ZW X (d + 18) 5 false (some .boolean) cX5_readTest (zRI N [(2, 3, 0), (2, 3, 1), (20, 21, 1), (41, 42, 1), (21, 22, 1000), (42, 43, 1000), (2, 3, 7)] M0 (0) (1) (fun v M' => Q v.toInt (zi M'))) (44, [some (.ref 2), some (.int 1), some (.int v44_2), some (.int v44_3)], [], M)) ∧
      (∀ (M : zM) (v66_2 : Int32) (u66_3 : Int32), zJ N [(2, 3, 0), (2, 3, 1), (20, 21, 1), (41, 42, 1), (21, 22, 1000), (42, 43, 1000), (2, 3, 7)] M0 M → ((0 : Int) ≤ v66_2.toInt) → (v66_2.toInt ≤ 1600) → I66 n (zi M) v66_2.toInt → ZW X (d + 18) 5 false (some .boolean) cX5_readTest (zRI N [(2, 3, 0), (2, 3, 1), (20, 21, 1), (41, 42, 1), (21, 22, 1000), (42, 43, 1000), (2, 3, 7)] M0 (0) (1) (fun v M' => Q v.toInt (zi M'))) (66, [some (.ref 2), some (.int 1), some (.int v66_2), some (.int u66_3)], [], M)) := by
    intro n
    induction n using Nat.strongRecOn with
    | _ n ih =>
      refine ⟨?_, ?_, ?_, ?_⟩
      · intro M v2_2 o2_3 hJ v2_20 v2_21 hI
        have hb : zHd _ := hb2 n (zi M) v2_2.toInt (zi_fr hJ.2) v2_20 v2_21 hI
        refine w_lo dX5_readTest_2 rfl rfl rfl rfl ?_
        refine w_si dX5_readTest_3 (c := 1600) (by decide) ?_
        rcases zcut (1600 : Int) v2_2.toInt with h1 | h1
        · skip
          replace hb : zHd _ := hb.1 h1
          refine w_cgt_t dX5_readTest_6 (t := 104) rfl (by have := zt_1600; omega) ?_
          refine w_ic dX5_readTest_104 zi_1 ?_
          refine w_en dX5_readTest_105 rfl ?_
          exact ⟨_, _, rfl, (by have := zt_1; omega), (by have := zt_1; omega), hJ, hb⟩
        · skip
          replace hb : zHd _ := hb.2 h1
          refine w_cgt_f dX5_readTest_6 (t := 104) rfl (by have := zt_1600; omega) ?_
          refine w_ic dX5_readTest_9 zi_0 ?_
          refine w_lo (ml' := [some (.ref 2), some (.int 1), some (.int v2_2), some (.int 0)]) dX5_readTest_10 rfl rfl rfl rfl ?_
          obtain ⟨m, hm, hI⟩ := hb
          exact (ih m hm).2.1 M v2_2 0 hJ (by omega) (by omega) (by have := zt_0; omega) (by have := zt_0; omega) hI
      · intro M v11_2 v11_3 hJ v11_20 v11_21 v11_30 v11_31 hI
        have hb : zHd _ := hb11 n (zi M) v11_2.toInt v11_3.toInt (zi_fr hJ.2) v11_20 v11_21 v11_30 v11_31 hI
        refine w_lo dX5_readTest_11 rfl rfl rfl rfl ?_
        refine w_si dX5_readTest_12 (c := 1600) (by decide) ?_
        rcases zcut (1600 : Int) v11_3.toInt with h2 | h2
        · skip
          replace hb : zHd _ := hb.1 h2
          refine w_cgt_t dX5_readTest_15 (t := 66) rfl (by have := zt_1600; omega) ?_
          obtain ⟨m, hm, hI⟩ := hb
          exact (ih m hm).2.2.2 M v11_2 v11_3 hJ (by omega) (by omega) hI
        · skip
          replace hb : zHd _ := hb.2 h2
          refine w_cgt_f dX5_readTest_15 (t := 66) rfl (by have := zt_1600; omega) ?_
          refine w_lo dX5_readTest_18 rfl rfl rfl rfl ?_
          refine w_lo dX5_readTest_19 rfl rfl rfl rfl ?_
          refine w_iv dX5_readTest_20 rfl rfl (As := [.int 1]) rfl rfl hJ.1.1 zs_2 (Nat.le_of_ble_eq_true rfl) ?_
          obtain ⟨P5, hp6, hb⟩ := hb
          replace hb : zHd _ := hb
          refine ZV.imp (u_1301_c1 hN hJ.1 hp6) ?_
          rintro _ ⟨x8, M3, rfl, h9, h10, hJ4, hq7⟩
          replace hb : zHd _ := hb x8.toInt h9 h10 (zi M3) (zi_fr hJ4.2) hq7
          have hJ12 := zJ_trans hJ hJ4 (zSub_cons (fun _ _ h h' hk => zIR_e (by omega) (by omega) hk) (zSub_cons (fun _ _ h h' hk => zIR_s (zIR_e (by omega) (by omega) hk)) (zSub_cons (fun _ _ h h' hk => zIR_s (zIR_s (zIR_e (by omega) (by omega) hk))) (zSub_cons (fun _ _ h h' hk => zIR_s (zIR_s (zIR_s (zIR_e (by omega) (by omega) hk)))) (zSub_cons (fun _ _ h h' hk => zIR_s (zIR_s (zIR_s (zIR_s (zIR_a (by omega) (by omega)))))) (zSub_cons (fun _ _ h h' hk => zIR_s (zIR_s (zIR_s (zIR_s (zIR_s (zIR_a (by omega) (by omega))))))) (zSub_cons (fun _ _ h h' hk => zIR_s (zIR_s (zIR_s (zIR_s (zIR_s (zIR_s (zIR_e (by omega) (by omega) hk))))))) zSub_nil)))))))
          show ZW _ _ _ _ _ _ _ (23, [some (.ref 2), some (.int 1), some (.int v11_2), some (.int v11_3)], [.int x8], M3)
          rcases Int.decEq x8.toInt (0 : Int) with h13 | h13
          · skip
            replace hb : zHd _ := hb.1 h13
            refine w_ine_t dX5_readTest_23 (t := 28) rfl (by omega) ?_
            refine w_lo dX5_readTest_28 rfl rfl rfl rfl ?_
            rcases zcut (0 : Int) v11_3.toInt with h14 | h14
            · skip
              replace hb : zHd _ := hb.1 h14
              refine w_ile_f dX5_readTest_29 (t := 44) rfl (by omega) ?_
              refine w_lo dX5_readTest_32 rfl rfl rfl rfl ?_
              obtain ⟨b15, f16, h17⟩ := zd_2_8 hJ12.1
              have h18 := zDm_b h17
              refine w_gf dX5_readTest_33 rfl hJ12.1.1 zs_2 f16 ?_
              replace hb : zHd _ := hb b15 (ziR f16) (zDm_or h17)
              refine w_gf dX5_readTest_36 rfl hJ12.1.1 (zs_1_0 h17) (zr_1_0_15 h17 hJ12.1) ?_
              refine w_bi dX5_readTest_39 (c := (-17)) (by decide) ?_
              refine w_iv dX5_readTest_41 rfl rfl (As := [.int (-17)]) rfl rfl hJ12.1.1 (zs_1_13 h17) (Nat.le_of_ble_eq_true rfl) ?_
              obtain ⟨P21, hp22, hb⟩ := hb
              replace hb : zHd _ := hb
              have hp22c : b_515 (b15 + 13) (zi M3) ((-17) : Int32).toInt P21 := by rw [zt_m17]; exact hp22
              refine ZV.imp (u_515 (b15 + 13) (zLw_of h17) (-17) hN hJ12.1 hp22c) ?_
              rintro _ ⟨M19, rfl, hJ20, hq23⟩
              replace hb : zHd _ := hb  (zi M19) (zi_fr hJ20.2) hq23
              have hJ25 := zJ_trans hJ12 hJ20 (zSub_cons (fun _ _ h h' hk => ((zDm_or h17).elim (fun e => zIR_s (zIR_s (zIR_e (by omega) (by omega) hk))) (fun e => zIR_s (zIR_s (zIR_s (zIR_e (by omega) (by omega) hk)))))) (zSub_cons (fun _ _ h h' hk => ((zDm_or h17).elim (fun e => zIR_s (zIR_s (zIR_s (zIR_s (zIR_a (by omega) (by omega)))))) (fun e => zIR_s (zIR_s (zIR_s (zIR_s (zIR_s (zIR_a (by omega) (by omega))))))))) zSub_nil))
              show ZW _ _ _ _ _ _ _ (44, [some (.ref 2), some (.int 1), some (.int v11_2), some (.int v11_3)], [], M19)
              obtain ⟨m, hm, hI⟩ := hb
              exact (ih m hm).2.2.1 M19 v11_2 v11_3 hJ25 (by omega) (by omega) (by omega) (by omega) hI
            · skip
              replace hb : zHd _ := hb.2 h14
              refine w_ile_t dX5_readTest_29 (t := 44) rfl (by omega) ?_
              obtain ⟨m, hm, hI⟩ := hb
              exact (ih m hm).2.2.1 M3 v11_2 v11_3 hJ12 (by omega) (by omega) (by omega) (by omega) hI
          · skip
            replace hb : zHd _ := hb.2 h13
            refine w_ine_f dX5_readTest_23 (t := 28) rfl (by omega) ?_
            refine w_ic dX5_readTest_26 zi_0 ?_
            refine w_en dX5_readTest_27 rfl ?_
            exact ⟨_, _, rfl, (by have := zt_0; omega), (by have := zt_0; omega), hJ12, hb⟩
      · intro M v44_2 v44_3 hJ v44_20 v44_21 v44_30 v44_31 hI
        have hb : zHd _ := hb44 n (zi M) v44_2.toInt v44_3.toInt (zi_fr hJ.2) v44_20 v44_21 v44_30 v44_31 hI
        refine w_lo dX5_readTest_44 rfl rfl rfl rfl ?_
        refine w_iv dX5_readTest_45 rfl rfl (As := []) rfl rfl hJ.1.1 zs_2 (Nat.le_of_ble_eq_true rfl) ?_
        obtain ⟨P28, hp29, hb⟩ := hb
        replace hb : zHd _ := hb
        refine ZV.imp (u_1287 hN hJ.1 hp29) ?_
        rintro _ ⟨x31, M26, rfl, h32, h33, hJ27, hq30⟩
        replace hb : zHd _ := hb x31.toInt h32 h33 (zi M26) (zi_fr hJ27.2) hq30
        have hJ35 := zJ_trans hJ hJ27 zSub_nil
        show ZW _ _ _ _ _ _ _ (48, [some (.ref 2), some (.int 1), some (.int v44_2), some (.int v44_3)], [.int x31], M26)
        refine w_bi dX5_readTest_48 (c := 22) (by decide) ?_
        rcases Int.decEq x31.toInt (22 : Int) with h36 | h36
        · skip
          replace hb : zHd _ := hb.1 h36
          refine w_ceq_f dX5_readTest_50 (t := 56) rfl (by have := zt_22; omega) ?_
          refine w_gt dX5_readTest_53 (t := 66) rfl ?_
          obtain ⟨m, hm, hI⟩ := hb
          exact (ih m hm).2.2.2 M26 v44_2 v44_3 hJ35 (by omega) (by omega) hI
        · skip
          replace hb : zHd _ := hb.2 h36
          refine w_ceq_t dX5_readTest_50 (t := 56) rfl (by have := zt_22; omega) ?_
          refine w_lo dX5_readTest_56 rfl rfl rfl rfl ?_
          refine w_iv dX5_readTest_57 rfl rfl (As := []) rfl rfl hJ35.1.1 zs_2 (Nat.le_of_ble_eq_true rfl) ?_
          obtain ⟨P39, hp40, hb⟩ := hb
          replace hb : zHd _ := hb
          refine ZV.imp (u_1289 hN hJ35.1 hp40) ?_
          rintro _ ⟨M37, rfl, hJ38, hq41⟩
          replace hb : zHd _ := hb  (zi M37) (zi_fr hJ38.2) hq41
          have hJ43 := zJ_trans hJ35 hJ38 (zSub_cons (fun _ _ h h' hk => zIR_s (zIR_s (zIR_s (zIR_s (zIR_s (zIR_s (zIR_e (by omega) (by omega) hk))))))) zSub_nil)
          show ZW _ _ _ _ _ _ _ (60, [some (.ref 2), some (.int 1), some (.int v44_2), some (.int v44_3)], [], M37)
          refine w_inc (kk := 3) dX5_readTest_60 rfl (m := 1) (by decide) (by omega) ?_
          intro x44 h45
          refine ⟨_, rfl, ?_⟩
          replace hb : zHd _ := hb x44.toInt h45
          show ZW _ _ _ _ _ _ _ (63, [some (.ref 2), some (.int 1), some (.int v44_2), some (.int x44)], [], M37)
          refine w_gt dX5_readTest_63 (t := 11) rfl ?_
          obtain ⟨m, hm, hI⟩ := hb
          exact (ih m hm).2.1 M37 v44_2 x44 hJ43 (by omega) (by omega) (by omega) (by omega) hI
      · intro M v66_2 u66_3 hJ v66_20 v66_21 hI
        have hb : zHd _ := hb66 n (zi M) v66_2.toInt (zi_fr hJ.2) v66_20 v66_21 hI
        refine w_lo dX5_readTest_66 rfl rfl rfl rfl ?_
        rcases zcut (0 : Int) v66_2.toInt with h46 | h46
        · skip
          replace hb : zHd _ := hb.1 h46
          refine w_ile_f dX5_readTest_67 (t := 82) rfl (by omega) ?_
          refine w_lo dX5_readTest_70 rfl rfl rfl rfl ?_
          obtain ⟨b47, f48, h49⟩ := zd_2_8 hJ.1
          have h50 := zDm_b h49
          refine w_gf dX5_readTest_71 rfl hJ.1.1 zs_2 f48 ?_
          replace hb : zHd _ := hb b47 (ziR f48) (zDm_or h49)
          refine w_gf dX5_readTest_74 rfl hJ.1.1 (zs_1_0 h49) (zr_1_0_15 h49 hJ.1) ?_
          refine w_bi dX5_readTest_77 (c := (-18)) (by decide) ?_
          refine w_iv dX5_readTest_79 rfl rfl (As := [.int (-18)]) rfl rfl hJ.1.1 (zs_1_13 h49) (Nat.le_of_ble_eq_true rfl) ?_
          obtain ⟨P53, hp54, hb⟩ := hb
          replace hb : zHd _ := hb
          have hp54c : b_515 (b47 + 13) (zi M) ((-18) : Int32).toInt P53 := by rw [zt_m18]; exact hp54
          refine ZV.imp (u_515 (b47 + 13) (zLw_of h49) (-18) hN hJ.1 hp54c) ?_
          rintro _ ⟨M51, rfl, hJ52, hq55⟩
          replace hb : zHd _ := hb  (zi M51) (zi_fr hJ52.2) hq55
          have hJ57 := zJ_trans hJ hJ52 (zSub_cons (fun _ _ h h' hk => ((zDm_or h49).elim (fun e => zIR_s (zIR_s (zIR_e (by omega) (by omega) hk))) (fun e => zIR_s (zIR_s (zIR_s (zIR_e (by omega) (by omega) hk)))))) (zSub_cons (fun _ _ h h' hk => ((zDm_or h49).elim (fun e => zIR_s (zIR_s (zIR_s (zIR_s (zIR_a (by omega) (by omega)))))) (fun e => zIR_s (zIR_s (zIR_s (zIR_s (zIR_s (zIR_a (by omega) (by omega))))))))) zSub_nil))
          show ZW _ _ _ _ _ _ _ (82, [some (.ref 2), some (.int 1), some (.int v66_2), some (.int u66_3)], [], M51)
          refine w_lo dX5_readTest_82 rfl rfl rfl rfl ?_
          refine w_iv dX5_readTest_83 rfl rfl (As := []) rfl rfl hJ57.1.1 zs_2 (Nat.le_of_ble_eq_true rfl) ?_
          obtain ⟨P60, hp61, hb⟩ := hb
          replace hb : zHd _ := hb
          refine ZV.imp (u_1287 hN hJ57.1 hp61) ?_
          rintro _ ⟨x63, M58, rfl, h64, h65, hJ59, hq62⟩
          replace hb : zHd _ := hb x63.toInt h64 h65 (zi M58) (zi_fr hJ59.2) hq62
          have hJ67 := zJ_trans hJ57 hJ59 zSub_nil
          show ZW _ _ _ _ _ _ _ (86, [some (.ref 2), some (.int 1), some (.int v66_2), some (.int u66_3)], [.int x63], M58)
          refine w_bi dX5_readTest_86 (c := 21) (by decide) ?_
          rcases Int.decEq x63.toInt (21 : Int) with h68 | h68
          · skip
            replace hb : zHd _ := hb.1 h68
            refine w_ceq_f dX5_readTest_88 (t := 94) rfl (by have := zt_21; omega) ?_
            refine w_gt dX5_readTest_91 (t := 104) rfl ?_
            refine w_ic dX5_readTest_104 zi_1 ?_
            refine w_en dX5_readTest_105 rfl ?_
            exact ⟨_, _, rfl, (by have := zt_1; omega), (by have := zt_1; omega), hJ67, hb⟩
          · skip
            replace hb : zHd _ := hb.2 h68
            refine w_ceq_t dX5_readTest_88 (t := 94) rfl (by have := zt_21; omega) ?_
            refine w_lo dX5_readTest_94 rfl rfl rfl rfl ?_
            refine w_iv dX5_readTest_95 rfl rfl (As := []) rfl rfl hJ67.1.1 zs_2 (Nat.le_of_ble_eq_true rfl) ?_
            obtain ⟨P71, hp72, hb⟩ := hb
            replace hb : zHd _ := hb
            refine ZV.imp (u_1289 hN hJ67.1 hp72) ?_
            rintro _ ⟨M69, rfl, hJ70, hq73⟩
            replace hb : zHd _ := hb  (zi M69) (zi_fr hJ70.2) hq73
            have hJ75 := zJ_trans hJ67 hJ70 (zSub_cons (fun _ _ h h' hk => zIR_s (zIR_s (zIR_s (zIR_s (zIR_s (zIR_s (zIR_e (by omega) (by omega) hk))))))) zSub_nil)
            show ZW _ _ _ _ _ _ _ (98, [some (.ref 2), some (.int 1), some (.int v66_2), some (.int u66_3)], [], M69)
            refine w_inc (kk := 2) dX5_readTest_98 rfl (m := 1) (by decide) (by omega) ?_
            intro x76 h77
            refine ⟨_, rfl, ?_⟩
            replace hb : zHd _ := hb x76.toInt h77
            show ZW _ _ _ _ _ _ _ (101, [some (.ref 2), some (.int 1), some (.int x76), some (.int u66_3)], [], M69)
            refine w_gt dX5_readTest_101 (t := 2) rfl ?_
            obtain ⟨m, hm, hI⟩ := hb
            exact (ih m hm).1 M69 x76 (some (.int u66_3)) hJ75 (by omega) (by omega) hI
        · skip
          replace hb : zHd _ := hb.2 h46
          refine w_ile_t dX5_readTest_67 (t := 82) rfl (by omega) ?_
          refine w_lo dX5_readTest_82 rfl rfl rfl rfl ?_
          refine w_iv dX5_readTest_83 rfl rfl (As := []) rfl rfl hJ.1.1 zs_2 (Nat.le_of_ble_eq_true rfl) ?_
          obtain ⟨P80, hp81, hb⟩ := hb
          replace hb : zHd _ := hb
          refine ZV.imp (u_1287 hN hJ.1 hp81) ?_
          rintro _ ⟨x83, M78, rfl, h84, h85, hJ79, hq82⟩
          replace hb : zHd _ := hb x83.toInt h84 h85 (zi M78) (zi_fr hJ79.2) hq82
          have hJ87 := zJ_trans hJ hJ79 zSub_nil
          show ZW _ _ _ _ _ _ _ (86, [some (.ref 2), some (.int 1), some (.int v66_2), some (.int u66_3)], [.int x83], M78)
          refine w_bi dX5_readTest_86 (c := 21) (by decide) ?_
          rcases Int.decEq x83.toInt (21 : Int) with h88 | h88
          · skip
            replace hb : zHd _ := hb.1 h88
            refine w_ceq_f dX5_readTest_88 (t := 94) rfl (by have := zt_21; omega) ?_
            refine w_gt dX5_readTest_91 (t := 104) rfl ?_
            refine w_ic dX5_readTest_104 zi_1 ?_
            refine w_en dX5_readTest_105 rfl ?_
            exact ⟨_, _, rfl, (by have := zt_1; omega), (by have := zt_1; omega), hJ87, hb⟩
          · skip
            replace hb : zHd _ := hb.2 h88
            refine w_ceq_t dX5_readTest_88 (t := 94) rfl (by have := zt_21; omega) ?_
            refine w_lo dX5_readTest_94 rfl rfl rfl rfl ?_
            refine w_iv dX5_readTest_95 rfl rfl (As := []) rfl rfl hJ87.1.1 zs_2 (Nat.le_of_ble_eq_true rfl) ?_
            obtain ⟨P91, hp92, hb⟩ := hb
            replace hb : zHd _ := hb
            refine ZV.imp (u_1289 hN hJ87.1 hp92) ?_
            rintro _ ⟨M89, rfl, hJ90, hq93⟩
            replace hb : zHd _ := hb  (zi M89) (zi_fr hJ90.2) hq93
            have hJ95 := zJ_trans hJ87 hJ90 (zSub_cons (fun _ _ h h' hk => zIR_s (zIR_s (zIR_s (zIR_s (zIR_s (zIR_s (zIR_e (by omega) (by omega) hk))))))) zSub_nil)
            show ZW _ _ _ _ _ _ _ (98, [some (.ref 2), some (.int 1), some (.int v66_2), some (.int u66_3)], [], M89)
            refine w_inc (kk := 2) dX5_readTest_98 rfl (m := 1) (by decide) (by omega) ?_
            intro x96 h97
            refine ⟨_, rfl, ?_⟩
            replace hb : zHd _ := hb x96.toInt h97
            show ZW _ _ _ _ _ _ _ (101, [some (.ref 2), some (.int 1), some (.int x96), some (.int u66_3)], [], M89)
            refine w_gt dX5_readTest_101 (t := 2) rfl ?_
            obtain ⟨m, hm, hI⟩ := hb
            exact (ih m hm).1 M89 x96 (some (.int u66_3)) hJ95 (by omega) (by omega) hI
  have hb : zHd _ := hbE
  show ZW _ _ _ _ _ _ _ (0, [some (.ref 2), some (.int 1), none, none], [], M0)
  refine w_ic dX5_readTest_0 zi_0 ?_
  refine w_lo (ml' := [some (.ref 2), some (.int 1), some (.int 0), none]) dX5_readTest_1 rfl rfl rfl rfl ?_
  obtain ⟨m, hI⟩ := hb
  exact (main m).1 M0 0 none hJ0 (by have := zt_0; omega) (by have := zt_0; omega) hI
set_option maxRecDepth 100000 in
theorem u_1301_c0 {X : List Int32} {d N : Nat} {M0 : zM}  (hN : N ≤ 600) (hB0 : zB N M0) {Q : Int → zF → Prop} (hb : b_1301_c0 (zi M0) Q) : ZV X (d + 20) 1301 [.ref 2, .int 0] M0 (zRI N [(2, 3, 0), (2, 3, 1), (20, 21, 1), (41, 42, 1), (21, 22, 1000), (42, 43, 1000), (2, 3, 7)] M0 (0) (1) (fun v M' => Q v.toInt (zi M'))) := by
  have hJ0 : zJ N [(2, 3, 0), (2, 3, 1), (20, 21, 1), (41, 42, 1), (21, 22, 1000), (42, 43, 1000), (2, 3, 7)] M0 M0 := zJ_refl hB0
  refine ZV.of (ini := false) rfl (Nat.le_of_ble_eq_true rfl) (by decide +kernel) ?_
  obtain ⟨I2, I28, I167, hbE, hb2, hb28, hb167⟩ := hb
  replace hbE : zHd _ := hbE
  replace hb2 : zHd _ := hb2
  replace hb28 : zHd _ := hb28
  replace hb167 : zHd _ := hb167
  have main : ∀ n : Nat,
      (∀ (M : zM) (v2_2 : Int32) (o2_3 : Option Value), zJ N [(2, 3, 0), (2, 3, 1), (20, 21, 1), (41, 42, 1), (21, 22, 1000), (42, 43, 1000), (2, 3, 7)] M0 M → ((0 : Int) ≤ v2_2.toInt) → (v2_2.toInt ≤ 1601) → I2 n (zi M) v2_2.toInt → ZW X (d + 19) 5 false (some .boolean) cX5_readFact (zRI N [(2, 3, 0), (2, 3, 1), (20, 21, 1), (41, 42, 1), (21, 22, 1000), (42, 43, 1000), (2, 3, 7)] M0 (0) (1) (fun v M' => Q v.toInt (zi M'))) (2, [some (.ref 2), some (.int 0), some (.int v2_2), o2_3], [], M)) ∧
      (∀ (M : zM) (v28_2 : Int32) (o28_3 : Option Value), zJ N [(2, 3, 0), (2, 3, 1), (20, 21, 1), (41, 42, 1), (21, 22, 1000), (42, 43, 1000), (2, 3, 7)] M0 M → ((0 : Int) ≤ v28_2.toInt) → (v28_2.toInt ≤ 1601) → I28 n (zi M) v28_2.toInt → ZW X (d + 19) 5 false (some .boolean) cX5_readFact (zRI N [(2, 3, 0), (2, 3, 1), (20, 21, 1), (41, 42, 1), (21, 22, 1000), (42, 43, 1000), (2, 3, 7)] M0 (0) (1) (fun v M' => Q v.toInt (zi M'))) (28, [some (.ref 2), some (.int 0), some (.int v28_2), o28_3], [], M)) ∧
      (∀ (M : zM) (v167_2 : Int32) (o167_3 : Option Value) (s167_0 : Int32), zJ N [(2, 3, 0), (2, 3, 1), (20, 21, 1), (41, 42, 1), (21, 22, 1000), (42, 43, 1000), (2, 3, 7)] M0 M → ((0 : Int) ≤ v167_2.toInt) → (v167_2.toInt ≤ 1601) → ((-16 : Int) ≤ s167_0.toInt) → (s167_0.toInt ≤ 0) → I167 n (zi M) v167_2.toInt s167_0.toInt → ZW X (d + 19) 5 false (some .boolean) cX5_readFact (zRI N [(2, 3, 0), (2, 3, 1), (20, 21, 1), (41, 42, 1), (21, 22, 1000), (42, 43, 1000), (2, 3, 7)] M0 (0) (1) (fun v M' => Q v.toInt (zi M'))) (167, [some (.ref 2), some (.int 0), some (.int v167_2), o167_3], [.int s167_0], M)) := by
    intro n
    induction n using Nat.strongRecOn with
    | _ n ih =>
      refine ⟨?_, ?_, ?_⟩
      · intro M v2_2 o2_3 hJ v2_20 v2_21 hI
        have hb : zHd _ := hb2 n (zi M) v2_2.toInt (zi_fr hJ.2) v2_20 v2_21 hI
        refine w_lo dX5_readFact_2 rfl rfl rfl rfl ?_
        refine w_si dX5_readFact_3 (c := 1600) (by decide) ?_
        rcases zcut (1600 : Int) v2_2.toInt with h1 | h1
        · skip
          replace hb : zHd _ := hb.1 h1
          refine w_cgt_t dX5_readFact_6 (t := 28) rfl (by have := zt_1600; omega) ?_
          obtain ⟨m, hm, hI⟩ := hb
          exact (ih m hm).2.1 M v2_2 o2_3 hJ (by omega) (by omega) hI
        · skip
          replace hb : zHd _ := hb.2 h1
          refine w_cgt_f dX5_readFact_6 (t := 28) rfl (by have := zt_1600; omega) ?_
          refine w_lo dX5_readFact_9 rfl rfl rfl rfl ?_
          refine w_iv dX5_readFact_10 rfl rfl (As := []) rfl rfl hJ.1.1 zs_2 (Nat.le_of_ble_eq_true rfl) ?_
          obtain ⟨P4, hp5, hb⟩ := hb
          replace hb : zHd _ := hb
          refine ZV.imp (u_1287 hN hJ.1 hp5) ?_
          rintro _ ⟨x7, M2, rfl, h8, h9, hJ3, hq6⟩
          replace hb : zHd _ := hb x7.toInt h8 h9 (zi M2) (zi_fr hJ3.2) hq6
          have hJ11 := zJ_trans hJ hJ3 zSub_nil
          show ZW _ _ _ _ _ _ _ (13, [some (.ref 2), some (.int 0), some (.int v2_2), o2_3], [.int x7], M2)
          refine w_bi dX5_readFact_13 (c := 23) (by decide) ?_
          rcases Int.decEq x7.toInt (23 : Int) with h12 | h12
          · skip
            replace hb : zHd _ := hb.1 h12
            refine w_cne_t dX5_readFact_15 (t := 28) rfl (by have := zt_23; omega) ?_
            obtain ⟨m, hm, hI⟩ := hb
            exact (ih m hm).2.1 M2 v2_2 o2_3 hJ11 (by omega) (by omega) hI
          · skip
            replace hb : zHd _ := hb.2 h12
            refine w_cne_f dX5_readFact_15 (t := 28) rfl (by have := zt_23; omega) ?_
            refine w_lo dX5_readFact_18 rfl rfl rfl rfl ?_
            refine w_iv dX5_readFact_19 rfl rfl (As := []) rfl rfl hJ11.1.1 zs_2 (Nat.le_of_ble_eq_true rfl) ?_
            obtain ⟨P15, hp16, hb⟩ := hb
            replace hb : zHd _ := hb
            refine ZV.imp (u_1289 hN hJ11.1 hp16) ?_
            rintro _ ⟨M13, rfl, hJ14, hq17⟩
            replace hb : zHd _ := hb  (zi M13) (zi_fr hJ14.2) hq17
            have hJ19 := zJ_trans hJ11 hJ14 (zSub_cons (fun _ _ h h' hk => zIR_s (zIR_s (zIR_s (zIR_s (zIR_s (zIR_s (zIR_e (by omega) (by omega) hk))))))) zSub_nil)
            show ZW _ _ _ _ _ _ _ (22, [some (.ref 2), some (.int 0), some (.int v2_2), o2_3], [], M13)
            refine w_inc (kk := 2) dX5_readFact_22 rfl (m := 1) (by decide) (by omega) ?_
            intro x20 h21
            refine ⟨_, rfl, ?_⟩
            replace hb : zHd _ := hb x20.toInt h21
            show ZW _ _ _ _ _ _ _ (25, [some (.ref 2), some (.int 0), some (.int x20), o2_3], [], M13)
            refine w_gt dX5_readFact_25 (t := 2) rfl ?_
            obtain ⟨m, hm, hI⟩ := hb
            exact (ih m hm).1 M13 x20 o2_3 hJ19 (by omega) (by omega) hI
      · intro M v28_2 o28_3 hJ v28_20 v28_21 hI
        have hb : zHd _ := hb28 n (zi M) v28_2.toInt (zi_fr hJ.2) v28_20 v28_21 hI
        refine w_lo dX5_readFact_28 rfl rfl rfl rfl ?_
        refine w_bi dX5_readFact_29 (c := 91) (by decide) ?_
        refine w_iv dX5_readFact_31 rfl rfl (As := [.int 91]) rfl rfl hJ.1.1 zs_2 (Nat.le_of_ble_eq_true rfl) ?_
        obtain ⟨P24, hp25, hb⟩ := hb
        replace hb : zHd _ := hb
        have hp25c : b_1299 (zi M) (91 : Int32).toInt P24 := by rw [zt_91]; exact hp25
        refine ZV.imp (u_1299 91 (by have := zt_91; omega) (by have := zt_91; omega) hN hJ.1 hp25c) ?_
        rintro _ ⟨x27, M22, rfl, h28, h29, hJ23, hq26⟩
        replace hb : zHd _ := hb x27.toInt h28 h29 (zi M22) (zi_fr hJ23.2) hq26
        have hJ31 := zJ_trans hJ hJ23 zSub_nil
        show ZW _ _ _ _ _ _ _ (34, [some (.ref 2), some (.int 0), some (.int v28_2), o28_3], [.int x27], M22)
        rcases Int.decEq x27.toInt (0 : Int) with h32 | h32
        · skip
          replace hb : zHd _ := hb.1 h32
          refine w_ieq_f dX5_readFact_34 (t := 87) rfl (by omega) ?_
          refine w_lo dX5_readFact_37 rfl rfl rfl rfl ?_
          refine w_bi dX5_readFact_38 (c := 8) (by decide) ?_
          refine w_clt_t dX5_readFact_40 (t := 49) rfl (by have := zt_0; have := zt_8; omega) ?_
          refine w_lo dX5_readFact_49 rfl rfl rfl rfl ?_
          refine w_iv dX5_readFact_50 rfl rfl (As := []) rfl rfl hJ31.1.1 zs_2 (Nat.le_of_ble_eq_true rfl) ?_
          obtain ⟨P35, hp36, hb⟩ := hb
          replace hb : zHd _ := hb
          refine ZV.imp (u_1289 hN hJ31.1 hp36) ?_
          rintro _ ⟨M33, rfl, hJ34, hq37⟩
          replace hb : zHd _ := hb  (zi M33) (zi_fr hJ34.2) hq37
          have hJ39 := zJ_trans hJ31 hJ34 (zSub_cons (fun _ _ h h' hk => zIR_s (zIR_s (zIR_s (zIR_s (zIR_s (zIR_s (zIR_e (by omega) (by omega) hk))))))) zSub_nil)
          show ZW _ _ _ _ _ _ _ (53, [some (.ref 2), some (.int 0), some (.int v28_2), o28_3], [], M33)
          refine w_lo dX5_readFact_53 rfl rfl rfl rfl ?_
          refine w_lo dX5_readFact_54 rfl rfl rfl rfl ?_
          refine w_ic dX5_readFact_55 zi_1 ?_
          refine w_pu (st' := [.int 1, .ref 2]) dX5_readFact_56 rfl rfl ?_
          refine w_iv dX5_readFact_57 rfl rfl (As := [.int 1]) rfl rfl hJ39.1.1 zs_2 (Nat.le_of_ble_eq_true rfl) ?_
          obtain ⟨P42, hp43, hb⟩ := hb
          replace hb : zHd _ := hb
          refine ZV.imp (u_1300_c1 hN hJ39.1 hp43) ?_
          rintro _ ⟨x45, M40, rfl, h46, h47, hJ41, hq44⟩
          replace hb : zHd _ := hb x45.toInt h46 h47 (zi M40) (zi_fr hJ41.2) hq44
          have hJ49 := zJ_trans hJ39 hJ41 (zSub_cons (fun _ _ h h' hk => zIR_e (by omega) (by omega) hk) (zSub_cons (fun _ _ h h' hk => zIR_s (zIR_e (by omega) (by omega) hk)) (zSub_cons (fun _ _ h h' hk => zIR_s (zIR_s (zIR_e (by omega) (by omega) hk))) (zSub_cons (fun _ _ h h' hk => zIR_s (zIR_s (zIR_s (zIR_e (by omega) (by omega) hk)))) (zSub_cons (fun _ _ h h' hk => zIR_s (zIR_s (zIR_s (zIR_s (zIR_a (by omega) (by omega)))))) (zSub_cons (fun _ _ h h' hk => zIR_s (zIR_s (zIR_s (zIR_s (zIR_s (zIR_a (by omega) (by omega))))))) (zSub_cons (fun _ _ h h' hk => zIR_s (zIR_s (zIR_s (zIR_s (zIR_s (zIR_s (zIR_e (by omega) (by omega) hk))))))) zSub_nil)))))))
          show ZW _ _ _ _ _ _ _ (60, [some (.ref 2), some (.int 0), some (.int v28_2), o28_3], [.int x45], M40)
          rcases Int.decEq x45.toInt (0 : Int) with h50 | h50
          · skip
            replace hb : zHd _ := hb.1 h50
            refine w_ine_t dX5_readFact_60 (t := 65) rfl (by omega) ?_
            refine w_lo dX5_readFact_65 rfl rfl rfl rfl ?_
            refine w_bi dX5_readFact_66 (c := 93) (by decide) ?_
            refine w_iv dX5_readFact_68 rfl rfl (As := [.int 93]) rfl rfl hJ49.1.1 zs_2 (Nat.le_of_ble_eq_true rfl) ?_
            obtain ⟨P53, hp54, hb⟩ := hb
            replace hb : zHd _ := hb
            have hp54c : b_1299 (zi M40) (93 : Int32).toInt P53 := by rw [zt_93]; exact hp54
            refine ZV.imp (u_1299 93 (by have := zt_93; omega) (by have := zt_93; omega) hN hJ49.1 hp54c) ?_
            rintro _ ⟨x56, M51, rfl, h57, h58, hJ52, hq55⟩
            replace hb : zHd _ := hb x56.toInt h57 h58 (zi M51) (zi_fr hJ52.2) hq55
            have hJ60 := zJ_trans hJ49 hJ52 zSub_nil
            show ZW _ _ _ _ _ _ _ (71, [some (.ref 2), some (.int 0), some (.int v28_2), o28_3], [.int x56], M51)
            rcases Int.decEq x56.toInt (0 : Int) with h61 | h61
            · skip
              replace hb : zHd _ := hb.1 h61
              refine w_ine_t dX5_readFact_71 (t := 80) rfl (by omega) ?_
              refine w_lo dX5_readFact_80 rfl rfl rfl rfl ?_
              refine w_iv dX5_readFact_81 rfl rfl (As := []) rfl rfl hJ60.1.1 zs_2 (Nat.le_of_ble_eq_true rfl) ?_
              obtain ⟨P64, hp65, hb⟩ := hb
              replace hb : zHd _ := hb
              refine ZV.imp (u_1289 hN hJ60.1 hp65) ?_
              rintro _ ⟨M62, rfl, hJ63, hq66⟩
              replace hb : zHd _ := hb  (zi M62) (zi_fr hJ63.2) hq66
              have hJ68 := zJ_trans hJ60 hJ63 (zSub_cons (fun _ _ h h' hk => zIR_s (zIR_s (zIR_s (zIR_s (zIR_s (zIR_s (zIR_e (by omega) (by omega) hk))))))) zSub_nil)
              show ZW _ _ _ _ _ _ _ (84, [some (.ref 2), some (.int 0), some (.int v28_2), o28_3], [], M62)
              refine w_gt dX5_readFact_84 (t := 203) rfl ?_
              refine w_lo dX5_readFact_203 rfl rfl rfl rfl ?_
              refine w_ic dX5_readFact_204 zi_2 ?_
              refine w_remE dX5_readFact_205 (by omega) (by have := zt_2; omega) ?_
              intro x69 h70 h71 h72
              have := zt_2
              replace hb : zHd _ := hb x69.toInt h70 (by omega) (by rw [h72, zt_2])
              refine w_ic dX5_readFact_206 zi_1 ?_
              rcases Int.decEq x69.toInt (1 : Int) with h73 | h73
              · skip
                replace hb : zHd _ := hb.1 h73
                refine w_cne_t dX5_readFact_207 (t := 222) rfl (by have := zt_1; omega) ?_
                refine w_ic dX5_readFact_222 zi_1 ?_
                refine w_en dX5_readFact_223 rfl ?_
                exact ⟨_, _, rfl, (by have := zt_1; omega), (by have := zt_1; omega), hJ68, hb⟩
              · skip
                replace hb : zHd _ := hb.2 h73
                refine w_cne_f dX5_readFact_207 (t := 222) rfl (by have := zt_1; omega) ?_
                refine w_lo dX5_readFact_210 rfl rfl rfl rfl ?_
                obtain ⟨b74, f75, h76⟩ := zd_2_8 hJ68.1
                have h77 := zDm_b h76
                refine w_gf dX5_readFact_211 rfl hJ68.1.1 zs_2 f75 ?_
                replace hb : zHd _ := hb b74 (ziR f75) (zDm_or h76)
                refine w_gf dX5_readFact_214 rfl hJ68.1.1 (zs_1_0 h76) (zr_1_0_15 h76 hJ68.1) ?_
                refine w_bi dX5_readFact_217 (c := (-8)) (by decide) ?_
                refine w_iv dX5_readFact_219 rfl rfl (As := [.int (-8)]) rfl rfl hJ68.1.1 (zs_1_13 h76) (Nat.le_of_ble_eq_true rfl) ?_
                obtain ⟨P80, hp81, hb⟩ := hb
                replace hb : zHd _ := hb
                have hp81c : b_515 (b74 + 13) (zi M62) ((-8) : Int32).toInt P80 := by rw [zt_m8]; exact hp81
                refine ZV.imp (u_515 (b74 + 13) (zLw_of h76) (-8) hN hJ68.1 hp81c) ?_
                rintro _ ⟨M78, rfl, hJ79, hq82⟩
                replace hb : zHd _ := hb  (zi M78) (zi_fr hJ79.2) hq82
                have hJ84 := zJ_trans hJ68 hJ79 (zSub_cons (fun _ _ h h' hk => ((zDm_or h76).elim (fun e => zIR_s (zIR_s (zIR_e (by omega) (by omega) hk))) (fun e => zIR_s (zIR_s (zIR_s (zIR_e (by omega) (by omega) hk)))))) (zSub_cons (fun _ _ h h' hk => ((zDm_or h76).elim (fun e => zIR_s (zIR_s (zIR_s (zIR_s (zIR_a (by omega) (by omega)))))) (fun e => zIR_s (zIR_s (zIR_s (zIR_s (zIR_s (zIR_a (by omega) (by omega))))))))) zSub_nil))
                show ZW _ _ _ _ _ _ _ (222, [some (.ref 2), some (.int 0), some (.int v28_2), o28_3], [], M78)
                refine w_ic dX5_readFact_222 zi_1 ?_
                refine w_en dX5_readFact_223 rfl ?_
                exact ⟨_, _, rfl, (by have := zt_1; omega), (by have := zt_1; omega), hJ84, hb⟩
            · skip
              replace hb : zHd _ := hb.2 h61
              refine w_ine_f dX5_readFact_71 (t := 80) rfl (by omega) ?_
              refine w_lo dX5_readFact_74 rfl rfl rfl rfl ?_
              refine w_ic dX5_readFact_75 zi_1 ?_
              refine w_iv dX5_readFact_76 rfl rfl (As := [.int 1]) rfl rfl hJ60.1.1 zs_2 (Nat.le_of_ble_eq_true rfl) ?_
              obtain ⟨P87, hp88, hb⟩ := hb
              replace hb : zHd _ := hb
              have hp88c : b_1286 (zi M51) (1 : Int32).toInt P87 := by rw [zt_1]; exact hp88
              refine ZV.imp (u_1286 1 (by have := zt_1; omega) (by have := zt_1; omega) hN hJ60.1 hp88c) ?_
              rintro _ ⟨x90, M85, rfl, h91, h92, hJ86, hq89⟩
              replace hb : zHd _ := hb x90.toInt h91 h92 (zi M85) (zi_fr hJ86.2) hq89
              have hJ94 := zJ_trans hJ60 hJ86 (zSub_cons (fun _ _ h h' hk => zIR_e (by omega) (by omega) hk) (zSub_cons (fun _ _ h h' hk => zIR_s (zIR_e (by omega) (by omega) hk)) zSub_nil))
              show ZW _ _ _ _ _ _ _ (79, [some (.ref 2), some (.int 0), some (.int v28_2), o28_3], [.int x90], M85)
              refine w_eni dX5_readFact_79 rfl (znb (by omega) (by omega)) ?_
              exact ⟨_, _, rfl, (by omega), (by omega), hJ94, hb⟩
          · skip
            replace hb : zHd _ := hb.2 h50
            refine w_ine_f dX5_readFact_60 (t := 65) rfl (by omega) ?_
            refine w_ic dX5_readFact_63 zi_0 ?_
            refine w_en dX5_readFact_64 rfl ?_
            exact ⟨_, _, rfl, (by have := zt_0; omega), (by have := zt_0; omega), hJ49, hb⟩
        · skip
          replace hb : zHd _ := hb.2 h32
          refine w_ieq_t dX5_readFact_34 (t := 87) rfl (by omega) ?_
          refine w_lo dX5_readFact_87 rfl rfl rfl rfl ?_
          refine w_iv dX5_readFact_88 rfl rfl (As := []) rfl rfl hJ31.1.1 zs_2 (Nat.le_of_ble_eq_true rfl) ?_
          obtain ⟨P97, hp98, hb⟩ := hb
          replace hb : zHd _ := hb
          refine ZV.imp (u_1287 hN hJ31.1 hp98) ?_
          rintro _ ⟨x100, M95, rfl, h101, h102, hJ96, hq99⟩
          replace hb : zHd _ := hb x100.toInt h101 h102 (zi M95) (zi_fr hJ96.2) hq99
          have hJ104 := zJ_trans hJ31 hJ96 zSub_nil
          show ZW _ _ _ _ _ _ _ (91, [some (.ref 2), some (.int 0), some (.int v28_2), o28_3], [.int x100], M95)
          refine w_bi dX5_readFact_91 (c := 24) (by decide) ?_
          rcases Int.decEq x100.toInt (24 : Int) with h105 | h105
          · skip
            replace hb : zHd _ := hb.1 h105
            refine w_cne_t dX5_readFact_93 (t := 114) rfl (by have := zt_24; omega) ?_
            refine w_lo dX5_readFact_114 rfl rfl rfl rfl ?_
            refine w_lo dX5_readFact_115 rfl rfl rfl rfl ?_
            refine w_iv dX5_readFact_116 rfl rfl (As := [.int 0]) rfl rfl hJ104.1.1 zs_2 (Nat.le_of_ble_eq_true rfl) ?_
            obtain ⟨P108, hp109, hb⟩ := hb
            replace hb : zHd _ := hb
            refine ZV.imp (u_1297_c0 hN hJ104.1 hp109) ?_
            rintro _ ⟨x111, M106, rfl, h112, h113, hJ107, hq110⟩
            replace hb : zHd _ := hb x111.toInt h112 h113 (zi M106) (zi_fr hJ107.2) hq110
            have hJ115 := zJ_trans hJ104 hJ107 (zSub_cons (fun _ _ h h' hk => zIR_e (by omega) (by omega) hk) (zSub_cons (fun _ _ h h' hk => zIR_s (zIR_e (by omega) (by omega) hk)) (zSub_cons (fun _ _ h h' hk => zIR_s (zIR_s (zIR_e (by omega) (by omega) hk))) (zSub_cons (fun _ _ h h' hk => zIR_s (zIR_s (zIR_s (zIR_e (by omega) (by omega) hk)))) (zSub_cons (fun _ _ h h' hk => zIR_s (zIR_s (zIR_s (zIR_s (zIR_a (by omega) (by omega)))))) (zSub_cons (fun _ _ h h' hk => zIR_s (zIR_s (zIR_s (zIR_s (zIR_s (zIR_a (by omega) (by omega))))))) (zSub_cons (fun _ _ h h' hk => zIR_s (zIR_s (zIR_s (zIR_s (zIR_s (zIR_s (zIR_e (by omega) (by omega) hk))))))) zSub_nil)))))))
            show ZW _ _ _ _ _ _ _ (119, [some (.ref 2), some (.int 0), some (.int v28_2), o28_3], [.int x111], M106)
            rcases Int.decEq x111.toInt (0 : Int) with h116 | h116
            · skip
              replace hb : zHd _ := hb.1 h116
              refine w_ine_t dX5_readFact_119 (t := 124) rfl (by omega) ?_
              refine w_lo dX5_readFact_124 rfl rfl rfl rfl ?_
              refine w_bi dX5_readFact_125 (c := 60) (by decide) ?_
              refine w_iv dX5_readFact_127 rfl rfl (As := [.int 60]) rfl rfl hJ115.1.1 zs_2 (Nat.le_of_ble_eq_true rfl) ?_
              obtain ⟨P119, hp120, hb⟩ := hb
              replace hb : zHd _ := hb
              have hp120c : b_1299 (zi M106) (60 : Int32).toInt P119 := by rw [zt_60]; exact hp120
              refine ZV.imp (u_1299 60 (by have := zt_60; omega) (by have := zt_60; omega) hN hJ115.1 hp120c) ?_
              rintro _ ⟨x122, M117, rfl, h123, h124, hJ118, hq121⟩
              replace hb : zHd _ := hb x122.toInt h123 h124 (zi M117) (zi_fr hJ118.2) hq121
              have hJ126 := zJ_trans hJ115 hJ118 zSub_nil
              show ZW _ _ _ _ _ _ _ (130, [some (.ref 2), some (.int 0), some (.int v28_2), o28_3], [.int x122], M117)
              rcases Int.decEq x122.toInt (0 : Int) with h127 | h127
              · skip
                replace hb : zHd _ := hb.1 h127
                refine w_ieq_f dX5_readFact_130 (t := 138) rfl (by omega) ?_
                refine w_bi dX5_readFact_133 (c := (-14)) (by decide) ?_
                refine w_gt dX5_readFact_135 (t := 167) rfl ?_
                obtain ⟨m, hm, hI⟩ := hb
                exact (ih m hm).2.2 M117 v28_2 o28_3 (-14) hJ126 (by omega) (by omega) (by have := zt_m14; omega) (by have := zt_m14; omega) hI
              · skip
                replace hb : zHd _ := hb.2 h127
                refine w_ieq_t dX5_readFact_130 (t := 138) rfl (by omega) ?_
                refine w_lo dX5_readFact_138 rfl rfl rfl rfl ?_
                refine w_bi dX5_readFact_139 (c := 62) (by decide) ?_
                refine w_iv dX5_readFact_141 rfl rfl (As := [.int 62]) rfl rfl hJ126.1.1 zs_2 (Nat.le_of_ble_eq_true rfl) ?_
                obtain ⟨P130, hp131, hb⟩ := hb
                replace hb : zHd _ := hb
                have hp131c : b_1299 (zi M117) (62 : Int32).toInt P130 := by rw [zt_62]; exact hp131
                refine ZV.imp (u_1299 62 (by have := zt_62; omega) (by have := zt_62; omega) hN hJ126.1 hp131c) ?_
                rintro _ ⟨x133, M128, rfl, h134, h135, hJ129, hq132⟩
                replace hb : zHd _ := hb x133.toInt h134 h135 (zi M128) (zi_fr hJ129.2) hq132
                have hJ137 := zJ_trans hJ126 hJ129 zSub_nil
                show ZW _ _ _ _ _ _ _ (144, [some (.ref 2), some (.int 0), some (.int v28_2), o28_3], [.int x133], M128)
                rcases Int.decEq x133.toInt (0 : Int) with h138 | h138
                · skip
                  replace hb : zHd _ := hb.1 h138
                  refine w_ieq_f dX5_readFact_144 (t := 152) rfl (by omega) ?_
                  refine w_bi dX5_readFact_147 (c := (-15)) (by decide) ?_
                  refine w_gt dX5_readFact_149 (t := 167) rfl ?_
                  obtain ⟨m, hm, hI⟩ := hb
                  exact (ih m hm).2.2 M128 v28_2 o28_3 (-15) hJ137 (by omega) (by omega) (by have := zt_m15; omega) (by have := zt_m15; omega) hI
                · skip
                  replace hb : zHd _ := hb.2 h138
                  refine w_ieq_t dX5_readFact_144 (t := 152) rfl (by omega) ?_
                  refine w_lo dX5_readFact_152 rfl rfl rfl rfl ?_
                  refine w_bi dX5_readFact_153 (c := 61) (by decide) ?_
                  refine w_iv dX5_readFact_155 rfl rfl (As := [.int 61]) rfl rfl hJ137.1.1 zs_2 (Nat.le_of_ble_eq_true rfl) ?_
                  obtain ⟨P141, hp142, hb⟩ := hb
                  replace hb : zHd _ := hb
                  have hp142c : b_1299 (zi M128) (61 : Int32).toInt P141 := by rw [zt_61]; exact hp142
                  refine ZV.imp (u_1299 61 (by have := zt_61; omega) (by have := zt_61; omega) hN hJ137.1 hp142c) ?_
                  rintro _ ⟨x144, M139, rfl, h145, h146, hJ140, hq143⟩
                  replace hb : zHd _ := hb x144.toInt h145 h146 (zi M139) (zi_fr hJ140.2) hq143
                  have hJ148 := zJ_trans hJ137 hJ140 zSub_nil
                  show ZW _ _ _ _ _ _ _ (158, [some (.ref 2), some (.int 0), some (.int v28_2), o28_3], [.int x144], M139)
                  rcases Int.decEq x144.toInt (0 : Int) with h149 | h149
                  · skip
                    replace hb : zHd _ := hb.1 h149
                    refine w_ieq_f dX5_readFact_158 (t := 166) rfl (by omega) ?_
                    refine w_bi dX5_readFact_161 (c := (-16)) (by decide) ?_
                    refine w_gt dX5_readFact_163 (t := 167) rfl ?_
                    obtain ⟨m, hm, hI⟩ := hb
                    exact (ih m hm).2.2 M139 v28_2 o28_3 (-16) hJ148 (by omega) (by omega) (by have := zt_m16; omega) (by have := zt_m16; omega) hI
                  · skip
                    replace hb : zHd _ := hb.2 h149
                    refine w_ieq_t dX5_readFact_158 (t := 166) rfl (by omega) ?_
                    refine w_ic dX5_readFact_166 zi_0 ?_
                    obtain ⟨m, hm, hI⟩ := hb
                    exact (ih m hm).2.2 M139 v28_2 o28_3 0 hJ148 (by omega) (by omega) (by have := zt_0; omega) (by have := zt_0; omega) hI
            · skip
              replace hb : zHd _ := hb.2 h116
              refine w_ine_f dX5_readFact_119 (t := 124) rfl (by omega) ?_
              refine w_ic dX5_readFact_122 zi_0 ?_
              refine w_en dX5_readFact_123 rfl ?_
              exact ⟨_, _, rfl, (by have := zt_0; omega), (by have := zt_0; omega), hJ115, hb⟩
          · skip
            replace hb : zHd _ := hb.2 h105
            refine w_cne_f dX5_readFact_93 (t := 114) rfl (by have := zt_24; omega) ?_
            refine w_lo dX5_readFact_96 rfl rfl rfl rfl ?_
            refine w_iv dX5_readFact_97 rfl rfl (As := []) rfl rfl hJ104.1.1 zs_2 (Nat.le_of_ble_eq_true rfl) ?_
            obtain ⟨P152, hp153, hb⟩ := hb
            replace hb : zHd _ := hb
            refine ZV.imp (u_1289 hN hJ104.1 hp153) ?_
            rintro _ ⟨M150, rfl, hJ151, hq154⟩
            replace hb : zHd _ := hb  (zi M150) (zi_fr hJ151.2) hq154
            have hJ156 := zJ_trans hJ104 hJ151 (zSub_cons (fun _ _ h h' hk => zIR_s (zIR_s (zIR_s (zIR_s (zIR_s (zIR_s (zIR_e (by omega) (by omega) hk))))))) zSub_nil)
            show ZW _ _ _ _ _ _ _ (100, [some (.ref 2), some (.int 0), some (.int v28_2), o28_3], [], M150)
            refine w_lo dX5_readFact_100 rfl rfl rfl rfl ?_
            obtain ⟨b157, f158, h159⟩ := zd_2_8 hJ156.1
            have h160 := zDm_b h159
            refine w_gf dX5_readFact_101 rfl hJ156.1.1 zs_2 f158 ?_
            replace hb : zHd _ := hb b157 (ziR f158) (zDm_or h159)
            refine w_gf dX5_readFact_104 rfl hJ156.1.1 (zs_1_0 h159) (zr_1_0_15 h159 hJ156.1) ?_
            refine w_ic dX5_readFact_107 zi_1 ?_
            refine w_iv dX5_readFact_108 rfl rfl (As := [.int 1]) rfl rfl hJ156.1.1 (zs_1_13 h159) (Nat.le_of_ble_eq_true rfl) ?_
            obtain ⟨P163, hp164, hb⟩ := hb
            replace hb : zHd _ := hb
            have hp164c : b_515 (b157 + 13) (zi M150) (1 : Int32).toInt P163 := by rw [zt_1]; exact hp164
            refine ZV.imp (u_515 (b157 + 13) (zLw_of h159) 1 hN hJ156.1 hp164c) ?_
            rintro _ ⟨M161, rfl, hJ162, hq165⟩
            replace hb : zHd _ := hb  (zi M161) (zi_fr hJ162.2) hq165
            have hJ167 := zJ_trans hJ156 hJ162 (zSub_cons (fun _ _ h h' hk => ((zDm_or h159).elim (fun e => zIR_s (zIR_s (zIR_e (by omega) (by omega) hk))) (fun e => zIR_s (zIR_s (zIR_s (zIR_e (by omega) (by omega) hk)))))) (zSub_cons (fun _ _ h h' hk => ((zDm_or h159).elim (fun e => zIR_s (zIR_s (zIR_s (zIR_s (zIR_a (by omega) (by omega)))))) (fun e => zIR_s (zIR_s (zIR_s (zIR_s (zIR_s (zIR_a (by omega) (by omega))))))))) zSub_nil))
            show ZW _ _ _ _ _ _ _ (111, [some (.ref 2), some (.int 0), some (.int v28_2), o28_3], [], M161)
            refine w_gt dX5_readFact_111 (t := 203) rfl ?_
            refine w_lo dX5_readFact_203 rfl rfl rfl rfl ?_
            refine w_ic dX5_readFact_204 zi_2 ?_
            refine w_remE dX5_readFact_205 (by omega) (by have := zt_2; omega) ?_
            intro x168 h169 h170 h171
            have := zt_2
            replace hb : zHd _ := hb x168.toInt h169 (by omega) (by rw [h171, zt_2])
            refine w_ic dX5_readFact_206 zi_1 ?_
            rcases Int.decEq x168.toInt (1 : Int) with h172 | h172
            · skip
              replace hb : zHd _ := hb.1 h172
              refine w_cne_t dX5_readFact_207 (t := 222) rfl (by have := zt_1; omega) ?_
              refine w_ic dX5_readFact_222 zi_1 ?_
              refine w_en dX5_readFact_223 rfl ?_
              exact ⟨_, _, rfl, (by have := zt_1; omega), (by have := zt_1; omega), hJ167, hb⟩
            · skip
              replace hb : zHd _ := hb.2 h172
              refine w_cne_f dX5_readFact_207 (t := 222) rfl (by have := zt_1; omega) ?_
              refine w_lo dX5_readFact_210 rfl rfl rfl rfl ?_
              have f173 := (hJ162.2 (2) 8 (zNI_k (by decide) (by decide) (zNI (by omega) zNI_nil))).trans (f158)
              refine w_gf dX5_readFact_211 rfl hJ167.1.1 zs_2 f173 ?_
              refine w_gf dX5_readFact_214 rfl hJ167.1.1 (zs_1_0 h159) (zr_1_0_15 h159 hJ167.1) ?_
              refine w_bi dX5_readFact_217 (c := (-8)) (by decide) ?_
              refine w_iv dX5_readFact_219 rfl rfl (As := [.int (-8)]) rfl rfl hJ167.1.1 (zs_1_13 h159) (Nat.le_of_ble_eq_true rfl) ?_
              obtain ⟨P176, hp177, hb⟩ := hb
              replace hb : zHd _ := hb
              have hp177c : b_515 (b157 + 13) (zi M161) ((-8) : Int32).toInt P176 := by rw [zt_m8]; exact hp177
              refine ZV.imp (u_515 (b157 + 13) (zLw_of h159) (-8) hN hJ167.1 hp177c) ?_
              rintro _ ⟨M174, rfl, hJ175, hq178⟩
              replace hb : zHd _ := hb  (zi M174) (zi_fr hJ175.2) hq178
              have hJ180 := zJ_trans hJ167 hJ175 (zSub_cons (fun _ _ h h' hk => ((zDm_or h159).elim (fun e => zIR_s (zIR_s (zIR_e (by omega) (by omega) hk))) (fun e => zIR_s (zIR_s (zIR_s (zIR_e (by omega) (by omega) hk)))))) (zSub_cons (fun _ _ h h' hk => ((zDm_or h159).elim (fun e => zIR_s (zIR_s (zIR_s (zIR_s (zIR_a (by omega) (by omega)))))) (fun e => zIR_s (zIR_s (zIR_s (zIR_s (zIR_s (zIR_a (by omega) (by omega))))))))) zSub_nil))
              show ZW _ _ _ _ _ _ _ (222, [some (.ref 2), some (.int 0), some (.int v28_2), o28_3], [], M174)
              refine w_ic dX5_readFact_222 zi_1 ?_
              refine w_en dX5_readFact_223 rfl ?_
              exact ⟨_, _, rfl, (by have := zt_1; omega), (by have := zt_1; omega), hJ180, hb⟩
      · intro M v167_2 o167_3 s167_0 hJ v167_20 v167_21 s167_00 s167_01 hI
        have hb : zHd _ := hb167 n (zi M) v167_2.toInt s167_0.toInt (zi_fr hJ.2) v167_20 v167_21 s167_00 s167_01 hI
        refine w_lo (ml' := [some (.ref 2), some (.int 0), some (.int v167_2), some (.int s167_0)]) dX5_readFact_167 rfl rfl rfl rfl ?_
        refine w_lo dX5_readFact_168 rfl rfl rfl rfl ?_
        rcases Int.decEq s167_0.toInt (0 : Int) with h181 | h181
        · skip
          replace hb : zHd _ := hb.1 h181
          refine w_ine_t dX5_readFact_169 (t := 178) rfl (by omega) ?_
          refine w_lo dX5_readFact_178 rfl rfl rfl rfl ?_
          refine w_iv dX5_readFact_179 rfl rfl (As := []) rfl rfl hJ.1.1 zs_2 (Nat.le_of_ble_eq_true rfl) ?_
          obtain ⟨P184, hp185, hb⟩ := hb
          replace hb : zHd _ := hb
          refine ZV.imp (u_1289 hN hJ.1 hp185) ?_
          rintro _ ⟨M182, rfl, hJ183, hq186⟩
          replace hb : zHd _ := hb  (zi M182) (zi_fr hJ183.2) hq186
          have hJ188 := zJ_trans hJ hJ183 (zSub_cons (fun _ _ h h' hk => zIR_s (zIR_s (zIR_s (zIR_s (zIR_s (zIR_s (zIR_e (by omega) (by omega) hk))))))) zSub_nil)
          show ZW _ _ _ _ _ _ _ (182, [some (.ref 2), some (.int 0), some (.int v167_2), some (.int s167_0)], [], M182)
          refine w_lo dX5_readFact_182 rfl rfl rfl rfl ?_
          refine w_lo dX5_readFact_183 rfl rfl rfl rfl ?_
          refine w_iv dX5_readFact_184 rfl rfl (As := [.int 0]) rfl rfl hJ188.1.1 zs_2 (Nat.le_of_ble_eq_true rfl) ?_
          obtain ⟨P191, hp192, hb⟩ := hb
          replace hb : zHd _ := hb
          refine ZV.imp (u_1297_c0 hN hJ188.1 hp192) ?_
          rintro _ ⟨x194, M189, rfl, h195, h196, hJ190, hq193⟩
          replace hb : zHd _ := hb x194.toInt h195 h196 (zi M189) (zi_fr hJ190.2) hq193
          have hJ198 := zJ_trans hJ188 hJ190 (zSub_cons (fun _ _ h h' hk => zIR_e (by omega) (by omega) hk) (zSub_cons (fun _ _ h h' hk => zIR_s (zIR_e (by omega) (by omega) hk)) (zSub_cons (fun _ _ h h' hk => zIR_s (zIR_s (zIR_e (by omega) (by omega) hk))) (zSub_cons (fun _ _ h h' hk => zIR_s (zIR_s (zIR_s (zIR_e (by omega) (by omega) hk)))) (zSub_cons (fun _ _ h h' hk => zIR_s (zIR_s (zIR_s (zIR_s (zIR_a (by omega) (by omega)))))) (zSub_cons (fun _ _ h h' hk => zIR_s (zIR_s (zIR_s (zIR_s (zIR_s (zIR_a (by omega) (by omega))))))) (zSub_cons (fun _ _ h h' hk => zIR_s (zIR_s (zIR_s (zIR_s (zIR_s (zIR_s (zIR_e (by omega) (by omega) hk))))))) zSub_nil)))))))
          show ZW _ _ _ _ _ _ _ (187, [some (.ref 2), some (.int 0), some (.int v167_2), some (.int s167_0)], [.int x194], M189)
          rcases Int.decEq x194.toInt (0 : Int) with h199 | h199
          · skip
            replace hb : zHd _ := hb.1 h199
            refine w_ine_t dX5_readFact_187 (t := 192) rfl (by omega) ?_
            refine w_lo dX5_readFact_192 rfl rfl rfl rfl ?_
            obtain ⟨b200, f201, h202⟩ := zd_2_8 hJ198.1
            have h203 := zDm_b h202
            refine w_gf dX5_readFact_193 rfl hJ198.1.1 zs_2 f201 ?_
            replace hb : zHd _ := hb b200 (ziR f201) (zDm_or h202)
            refine w_gf dX5_readFact_196 rfl hJ198.1.1 (zs_1_0 h202) (zr_1_0_15 h202 hJ198.1) ?_
            refine w_lo dX5_readFact_199 rfl rfl rfl rfl ?_
            refine w_iv dX5_readFact_200 rfl rfl (As := [.int s167_0]) rfl rfl hJ198.1.1 (zs_1_13 h202) (Nat.le_of_ble_eq_true rfl) ?_
            obtain ⟨P206, hp207, hb⟩ := hb
            replace hb : zHd _ := hb
            refine ZV.imp (u_515 (b200 + 13) (zLw_of h202) s167_0 hN hJ198.1 hp207) ?_
            rintro _ ⟨M204, rfl, hJ205, hq208⟩
            replace hb : zHd _ := hb  (zi M204) (zi_fr hJ205.2) hq208
            have hJ210 := zJ_trans hJ198 hJ205 (zSub_cons (fun _ _ h h' hk => ((zDm_or h202).elim (fun e => zIR_s (zIR_s (zIR_e (by omega) (by omega) hk))) (fun e => zIR_s (zIR_s (zIR_s (zIR_e (by omega) (by omega) hk)))))) (zSub_cons (fun _ _ h h' hk => ((zDm_or h202).elim (fun e => zIR_s (zIR_s (zIR_s (zIR_s (zIR_a (by omega) (by omega)))))) (fun e => zIR_s (zIR_s (zIR_s (zIR_s (zIR_s (zIR_a (by omega) (by omega))))))))) zSub_nil))
            show ZW _ _ _ _ _ _ _ (203, [some (.ref 2), some (.int 0), some (.int v167_2), some (.int s167_0)], [], M204)
            refine w_lo dX5_readFact_203 rfl rfl rfl rfl ?_
            refine w_ic dX5_readFact_204 zi_2 ?_
            refine w_remE dX5_readFact_205 (by omega) (by have := zt_2; omega) ?_
            intro x211 h212 h213 h214
            have := zt_2
            replace hb : zHd _ := hb x211.toInt h212 (by omega) (by rw [h214, zt_2])
            refine w_ic dX5_readFact_206 zi_1 ?_
            rcases Int.decEq x211.toInt (1 : Int) with h215 | h215
            · skip
              replace hb : zHd _ := hb.1 h215
              refine w_cne_t dX5_readFact_207 (t := 222) rfl (by have := zt_1; omega) ?_
              refine w_ic dX5_readFact_222 zi_1 ?_
              refine w_en dX5_readFact_223 rfl ?_
              exact ⟨_, _, rfl, (by have := zt_1; omega), (by have := zt_1; omega), hJ210, hb⟩
            · skip
              replace hb : zHd _ := hb.2 h215
              refine w_cne_f dX5_readFact_207 (t := 222) rfl (by have := zt_1; omega) ?_
              refine w_lo dX5_readFact_210 rfl rfl rfl rfl ?_
              have f216 := (hJ205.2 (2) 8 (zNI_k (by decide) (by decide) (zNI (by omega) zNI_nil))).trans (f201)
              refine w_gf dX5_readFact_211 rfl hJ210.1.1 zs_2 f216 ?_
              refine w_gf dX5_readFact_214 rfl hJ210.1.1 (zs_1_0 h202) (zr_1_0_15 h202 hJ210.1) ?_
              refine w_bi dX5_readFact_217 (c := (-8)) (by decide) ?_
              refine w_iv dX5_readFact_219 rfl rfl (As := [.int (-8)]) rfl rfl hJ210.1.1 (zs_1_13 h202) (Nat.le_of_ble_eq_true rfl) ?_
              obtain ⟨P219, hp220, hb⟩ := hb
              replace hb : zHd _ := hb
              have hp220c : b_515 (b200 + 13) (zi M204) ((-8) : Int32).toInt P219 := by rw [zt_m8]; exact hp220
              refine ZV.imp (u_515 (b200 + 13) (zLw_of h202) (-8) hN hJ210.1 hp220c) ?_
              rintro _ ⟨M217, rfl, hJ218, hq221⟩
              replace hb : zHd _ := hb  (zi M217) (zi_fr hJ218.2) hq221
              have hJ223 := zJ_trans hJ210 hJ218 (zSub_cons (fun _ _ h h' hk => ((zDm_or h202).elim (fun e => zIR_s (zIR_s (zIR_e (by omega) (by omega) hk))) (fun e => zIR_s (zIR_s (zIR_s (zIR_e (by omega) (by omega) hk)))))) (zSub_cons (fun _ _ h h' hk => ((zDm_or h202).elim (fun e => zIR_s (zIR_s (zIR_s (zIR_s (zIR_a (by omega) (by omega)))))) (fun e => zIR_s (zIR_s (zIR_s (zIR_s (zIR_s (zIR_a (by omega) (by omega))))))))) zSub_nil))
              show ZW _ _ _ _ _ _ _ (222, [some (.ref 2), some (.int 0), some (.int v167_2), some (.int s167_0)], [], M217)
              refine w_ic dX5_readFact_222 zi_1 ?_
              refine w_en dX5_readFact_223 rfl ?_
              exact ⟨_, _, rfl, (by have := zt_1; omega), (by have := zt_1; omega), hJ223, hb⟩
          · skip
            replace hb : zHd _ := hb.2 h199
            refine w_ine_f dX5_readFact_187 (t := 192) rfl (by omega) ?_
            refine w_ic dX5_readFact_190 zi_0 ?_
            refine w_en dX5_readFact_191 rfl ?_
            exact ⟨_, _, rfl, (by have := zt_0; omega), (by have := zt_0; omega), hJ198, hb⟩
        · skip
          replace hb : zHd _ := hb.2 h181
          refine w_ine_f dX5_readFact_169 (t := 178) rfl (by omega) ?_
          refine w_lo dX5_readFact_172 rfl rfl rfl rfl ?_
          refine w_ic dX5_readFact_173 zi_1 ?_
          refine w_iv dX5_readFact_174 rfl rfl (As := [.int 1]) rfl rfl hJ.1.1 zs_2 (Nat.le_of_ble_eq_true rfl) ?_
          obtain ⟨P226, hp227, hb⟩ := hb
          replace hb : zHd _ := hb
          have hp227c : b_1286 (zi M) (1 : Int32).toInt P226 := by rw [zt_1]; exact hp227
          refine ZV.imp (u_1286 1 (by have := zt_1; omega) (by have := zt_1; omega) hN hJ.1 hp227c) ?_
          rintro _ ⟨x229, M224, rfl, h230, h231, hJ225, hq228⟩
          replace hb : zHd _ := hb x229.toInt h230 h231 (zi M224) (zi_fr hJ225.2) hq228
          have hJ233 := zJ_trans hJ hJ225 (zSub_cons (fun _ _ h h' hk => zIR_e (by omega) (by omega) hk) (zSub_cons (fun _ _ h h' hk => zIR_s (zIR_e (by omega) (by omega) hk)) zSub_nil))
          show ZW _ _ _ _ _ _ _ (177, [some (.ref 2), some (.int 0), some (.int v167_2), some (.int s167_0)], [.int x229], M224)
          refine w_eni dX5_readFact_177 rfl (znb (by omega) (by omega)) ?_
          exact ⟨_, _, rfl, (by omega), (by omega), hJ233, hb⟩
  have hb : zHd _ := hbE
  show ZW _ _ _ _ _ _ _ (0, [some (.ref 2), some (.int 0), none, none], [], M0)
  refine w_ic dX5_readFact_0 zi_0 ?_
  refine w_lo (ml' := [some (.ref 2), some (.int 0), some (.int 0), none]) dX5_readFact_1 rfl rfl rfl rfl ?_
  obtain ⟨m, hI⟩ := hb
  exact (main m).1 M0 0 none hJ0 (by have := zt_0; omega) (by have := zt_0; omega) hI
set_option maxRecDepth 100000 in
theorem u_1300_c0 {X : List Int32} {d N : Nat} {M0 : zM}  (hN : N ≤ 600) (hB0 : zB N M0) {Q : Int → zF → Prop} (hb : b_1300_c0 (zi M0) Q) : ZV X (d + 21) 1300 [.ref 2, .int 0] M0 (zRI N [(2, 3, 0), (2, 3, 1), (20, 21, 1), (41, 42, 1), (21, 22, 1000), (42, 43, 1000), (2, 3, 7)] M0 (0) (1) (fun v M' => Q v.toInt (zi M'))) := by
  have hJ0 : zJ N [(2, 3, 0), (2, 3, 1), (20, 21, 1), (41, 42, 1), (21, 22, 1000), (42, 43, 1000), (2, 3, 7)] M0 M0 := zJ_refl hB0
  refine ZV.of (ini := false) rfl (Nat.le_of_ble_eq_true rfl) (by decide +kernel) ?_
  obtain ⟨I2, I11, I44, I66, hbE, hb2, hb11, hb44, hb66⟩ := hb
  replace hbE : zHd _ := hbE
  replace hb2 : zHd _ := hb2
  replace hb11 : zHd _ := hb11
  replace hb44 : zHd _ := hb44
  replace hb66 : zHd _ := hb66
  have main : ∀ n : Nat,
      (∀ (M : zM) (v2_2 : Int32) (o2_3 : Option Value), zJ N [(2, 3, 0), (2, 3, 1), (20, 21, 1), (41, 42, 1), (21, 22, 1000), (42, 43, 1000), (2, 3, 7)] M0 M → ((0 : Int) ≤ v2_2.toInt) → (v2_2.toInt ≤ 1601) → I2 n (zi M) v2_2.toInt → ZW X (d + 20) 5 false (some .boolean) cX5_readTest (zRI N [(2, 3, 0), (2, 3, 1), (20, 21, 1), (41, 42, 1), (21, 22, 1000), (42, 43, 1000), (2, 3, 7)] M0 (0) (1) (fun v M' => Q v.toInt (zi M'))) (2, [some (.ref 2), some (.int 0), some (.int v2_2), o2_3], [], M)) ∧
      (∀ (M : zM) (v11_2 : Int32) (v11_3 : Int32), zJ N [(2, 3, 0), (2, 3, 1), (20, 21, 1), (41, 42, 1), (21, 22, 1000), (42, 43, 1000), (2, 3, 7)] M0 M → ((0 : Int) ≤ v11_2.toInt) → (v11_2.toInt ≤ 1600) → ((0 : Int) ≤ v11_3.toInt) → (v11_3.toInt ≤ 1601) → I11 n (zi M) v11_2.toInt v11_3.toInt → ZW X (d + 20) 5 false (some .boolean) cX5_readTest (zRI N [(2, 3, 0), (2, 3, 1), (20, 21, 1), (41, 42, 1), (21, 22, 1000), (42, 43, 1000), (2, 3, 7)] M0 (0) (1) (fun v M' => Q v.toInt (zi M'))) (11, [some (.ref 2), some (.int 0), some (.int v11_2), some (.int v11_3)], [], M)) ∧
      (∀ (M : zM) (v44_2 : Int32) (v44_3 : Int32), zJ N [(2, 3, 0), (2, 3, 1), (20, 21, 1), (41, 42, 1), (21, 22, 1000), (42, 43, 1000), (2, 3, 7)] M0 M → ((0 : Int) ≤ v44_2.toInt) → (v44_2.toInt ≤ 1600) → ((0 : Int) ≤ v44_3.toInt) → (v44_3.toInt ≤ 1600) → I44 n (zi M) v44_2.toInt v44_3.toInt → ZW X (d + 20) 5 false (some .boolean) cX5_readTest (zRI N [(2, 3, 0), (2, 3, 1), (20, 21, 1), (41, 42, 1), (21, 22, 1000), (42, 43, 1000), (2, 3, 7)] M0 (0) (1) (fun v M' => Q v.toInt (zi M'))) (44, [some (.ref 2), some (.int 0), some (.int v44_2), some (.int v44_3)], [], M)) ∧
      (∀ (M : zM) (v66_2 : Int32) (u66_3 : Int32), zJ N [(2, 3, 0), (2, 3, 1), (20, 21, 1), (41, 42, 1), (21, 22, 1000), (42, 43, 1000), (2, 3, 7)] M0 M → ((0 : Int) ≤ v66_2.toInt) → (v66_2.toInt ≤ 1600) → I66 n (zi M) v66_2.toInt → ZW X (d + 20) 5 false (some .boolean) cX5_readTest (zRI N [(2, 3, 0), (2, 3, 1), (20, 21, 1), (41, 42, 1), (21, 22, 1000), (42, 43, 1000), (2, 3, 7)] M0 (0) (1) (fun v M' => Q v.toInt (zi M'))) (66, [some (.ref 2), some (.int 0), some (.int v66_2), some (.int u66_3)], [], M)) := by
    intro n
    induction n using Nat.strongRecOn with
    | _ n ih =>
      refine ⟨?_, ?_, ?_, ?_⟩
      · intro M v2_2 o2_3 hJ v2_20 v2_21 hI
        have hb : zHd _ := hb2 n (zi M) v2_2.toInt (zi_fr hJ.2) v2_20 v2_21 hI
        refine w_lo dX5_readTest_2 rfl rfl rfl rfl ?_
        refine w_si dX5_readTest_3 (c := 1600) (by decide) ?_
        rcases zcut (1600 : Int) v2_2.toInt with h1 | h1
        · skip
          replace hb : zHd _ := hb.1 h1
          refine w_cgt_t dX5_readTest_6 (t := 104) rfl (by have := zt_1600; omega) ?_
          refine w_ic dX5_readTest_104 zi_1 ?_
          refine w_en dX5_readTest_105 rfl ?_
          exact ⟨_, _, rfl, (by have := zt_1; omega), (by have := zt_1; omega), hJ, hb⟩
        · skip
          replace hb : zHd _ := hb.2 h1
          refine w_cgt_f dX5_readTest_6 (t := 104) rfl (by have := zt_1600; omega) ?_
          refine w_ic dX5_readTest_9 zi_0 ?_
          refine w_lo (ml' := [some (.ref 2), some (.int 0), some (.int v2_2), some (.int 0)]) dX5_readTest_10 rfl rfl rfl rfl ?_
          obtain ⟨m, hm, hI⟩ := hb
          exact (ih m hm).2.1 M v2_2 0 hJ (by omega) (by omega) (by have := zt_0; omega) (by have := zt_0; omega) hI
      · intro M v11_2 v11_3 hJ v11_20 v11_21 v11_30 v11_31 hI
        have hb : zHd _ := hb11 n (zi M) v11_2.toInt v11_3.toInt (zi_fr hJ.2) v11_20 v11_21 v11_30 v11_31 hI
        refine w_lo dX5_readTest_11 rfl rfl rfl rfl ?_
        refine w_si dX5_readTest_12 (c := 1600) (by decide) ?_
        rcases zcut (1600 : Int) v11_3.toInt with h2 | h2
        · skip
          replace hb : zHd _ := hb.1 h2
          refine w_cgt_t dX5_readTest_15 (t := 66) rfl (by have := zt_1600; omega) ?_
          obtain ⟨m, hm, hI⟩ := hb
          exact (ih m hm).2.2.2 M v11_2 v11_3 hJ (by omega) (by omega) hI
        · skip
          replace hb : zHd _ := hb.2 h2
          refine w_cgt_f dX5_readTest_15 (t := 66) rfl (by have := zt_1600; omega) ?_
          refine w_lo dX5_readTest_18 rfl rfl rfl rfl ?_
          refine w_lo dX5_readTest_19 rfl rfl rfl rfl ?_
          refine w_iv dX5_readTest_20 rfl rfl (As := [.int 0]) rfl rfl hJ.1.1 zs_2 (Nat.le_of_ble_eq_true rfl) ?_
          obtain ⟨P5, hp6, hb⟩ := hb
          replace hb : zHd _ := hb
          refine ZV.imp (u_1301_c0 hN hJ.1 hp6) ?_
          rintro _ ⟨x8, M3, rfl, h9, h10, hJ4, hq7⟩
          replace hb : zHd _ := hb x8.toInt h9 h10 (zi M3) (zi_fr hJ4.2) hq7
          have hJ12 := zJ_trans hJ hJ4 (zSub_cons (fun _ _ h h' hk => zIR_e (by omega) (by omega) hk) (zSub_cons (fun _ _ h h' hk => zIR_s (zIR_e (by omega) (by omega) hk)) (zSub_cons (fun _ _ h h' hk => zIR_s (zIR_s (zIR_e (by omega) (by omega) hk))) (zSub_cons (fun _ _ h h' hk => zIR_s (zIR_s (zIR_s (zIR_e (by omega) (by omega) hk)))) (zSub_cons (fun _ _ h h' hk => zIR_s (zIR_s (zIR_s (zIR_s (zIR_a (by omega) (by omega)))))) (zSub_cons (fun _ _ h h' hk => zIR_s (zIR_s (zIR_s (zIR_s (zIR_s (zIR_a (by omega) (by omega))))))) (zSub_cons (fun _ _ h h' hk => zIR_s (zIR_s (zIR_s (zIR_s (zIR_s (zIR_s (zIR_e (by omega) (by omega) hk))))))) zSub_nil)))))))
          show ZW _ _ _ _ _ _ _ (23, [some (.ref 2), some (.int 0), some (.int v11_2), some (.int v11_3)], [.int x8], M3)
          rcases Int.decEq x8.toInt (0 : Int) with h13 | h13
          · skip
            replace hb : zHd _ := hb.1 h13
            refine w_ine_t dX5_readTest_23 (t := 28) rfl (by omega) ?_
            refine w_lo dX5_readTest_28 rfl rfl rfl rfl ?_
            rcases zcut (0 : Int) v11_3.toInt with h14 | h14
            · skip
              replace hb : zHd _ := hb.1 h14
              refine w_ile_f dX5_readTest_29 (t := 44) rfl (by omega) ?_
              refine w_lo dX5_readTest_32 rfl rfl rfl rfl ?_
              obtain ⟨b15, f16, h17⟩ := zd_2_8 hJ12.1
              have h18 := zDm_b h17
              refine w_gf dX5_readTest_33 rfl hJ12.1.1 zs_2 f16 ?_
              replace hb : zHd _ := hb b15 (ziR f16) (zDm_or h17)
              refine w_gf dX5_readTest_36 rfl hJ12.1.1 (zs_1_0 h17) (zr_1_0_15 h17 hJ12.1) ?_
              refine w_bi dX5_readTest_39 (c := (-17)) (by decide) ?_
              refine w_iv dX5_readTest_41 rfl rfl (As := [.int (-17)]) rfl rfl hJ12.1.1 (zs_1_13 h17) (Nat.le_of_ble_eq_true rfl) ?_
              obtain ⟨P21, hp22, hb⟩ := hb
              replace hb : zHd _ := hb
              have hp22c : b_515 (b15 + 13) (zi M3) ((-17) : Int32).toInt P21 := by rw [zt_m17]; exact hp22
              refine ZV.imp (u_515 (b15 + 13) (zLw_of h17) (-17) hN hJ12.1 hp22c) ?_
              rintro _ ⟨M19, rfl, hJ20, hq23⟩
              replace hb : zHd _ := hb  (zi M19) (zi_fr hJ20.2) hq23
              have hJ25 := zJ_trans hJ12 hJ20 (zSub_cons (fun _ _ h h' hk => ((zDm_or h17).elim (fun e => zIR_s (zIR_s (zIR_e (by omega) (by omega) hk))) (fun e => zIR_s (zIR_s (zIR_s (zIR_e (by omega) (by omega) hk)))))) (zSub_cons (fun _ _ h h' hk => ((zDm_or h17).elim (fun e => zIR_s (zIR_s (zIR_s (zIR_s (zIR_a (by omega) (by omega)))))) (fun e => zIR_s (zIR_s (zIR_s (zIR_s (zIR_s (zIR_a (by omega) (by omega))))))))) zSub_nil))
              show ZW _ _ _ _ _ _ _ (44, [some (.ref 2), some (.int 0), some (.int v11_2), some (.int v11_3)], [], M19)
              obtain ⟨m, hm, hI⟩ := hb
              exact (ih m hm).2.2.1 M19 v11_2 v11_3 hJ25 (by omega) (by omega) (by omega) (by omega) hI
            · skip
              replace hb : zHd _ := hb.2 h14
              refine w_ile_t dX5_readTest_29 (t := 44) rfl (by omega) ?_
              obtain ⟨m, hm, hI⟩ := hb
              exact (ih m hm).2.2.1 M3 v11_2 v11_3 hJ12 (by omega) (by omega) (by omega) (by omega) hI
          · skip
            replace hb : zHd _ := hb.2 h13
            refine w_ine_f dX5_readTest_23 (t := 28) rfl (by omega) ?_
            refine w_ic dX5_readTest_26 zi_0 ?_
            refine w_en dX5_readTest_27 rfl ?_
            exact ⟨_, _, rfl, (by have := zt_0; omega), (by have := zt_0; omega), hJ12, hb⟩
      · intro M v44_2 v44_3 hJ v44_20 v44_21 v44_30 v44_31 hI
        have hb : zHd _ := hb44 n (zi M) v44_2.toInt v44_3.toInt (zi_fr hJ.2) v44_20 v44_21 v44_30 v44_31 hI
        refine w_lo dX5_readTest_44 rfl rfl rfl rfl ?_
        refine w_iv dX5_readTest_45 rfl rfl (As := []) rfl rfl hJ.1.1 zs_2 (Nat.le_of_ble_eq_true rfl) ?_
        obtain ⟨P28, hp29, hb⟩ := hb
        replace hb : zHd _ := hb
        refine ZV.imp (u_1287 hN hJ.1 hp29) ?_
        rintro _ ⟨x31, M26, rfl, h32, h33, hJ27, hq30⟩
        replace hb : zHd _ := hb x31.toInt h32 h33 (zi M26) (zi_fr hJ27.2) hq30
        have hJ35 := zJ_trans hJ hJ27 zSub_nil
        show ZW _ _ _ _ _ _ _ (48, [some (.ref 2), some (.int 0), some (.int v44_2), some (.int v44_3)], [.int x31], M26)
        refine w_bi dX5_readTest_48 (c := 22) (by decide) ?_
        rcases Int.decEq x31.toInt (22 : Int) with h36 | h36
        · skip
          replace hb : zHd _ := hb.1 h36
          refine w_ceq_f dX5_readTest_50 (t := 56) rfl (by have := zt_22; omega) ?_
          refine w_gt dX5_readTest_53 (t := 66) rfl ?_
          obtain ⟨m, hm, hI⟩ := hb
          exact (ih m hm).2.2.2 M26 v44_2 v44_3 hJ35 (by omega) (by omega) hI
        · skip
          replace hb : zHd _ := hb.2 h36
          refine w_ceq_t dX5_readTest_50 (t := 56) rfl (by have := zt_22; omega) ?_
          refine w_lo dX5_readTest_56 rfl rfl rfl rfl ?_
          refine w_iv dX5_readTest_57 rfl rfl (As := []) rfl rfl hJ35.1.1 zs_2 (Nat.le_of_ble_eq_true rfl) ?_
          obtain ⟨P39, hp40, hb⟩ := hb
          replace hb : zHd _ := hb
          refine ZV.imp (u_1289 hN hJ35.1 hp40) ?_
          rintro _ ⟨M37, rfl, hJ38, hq41⟩
          replace hb : zHd _ := hb  (zi M37) (zi_fr hJ38.2) hq41
          have hJ43 := zJ_trans hJ35 hJ38 (zSub_cons (fun _ _ h h' hk => zIR_s (zIR_s (zIR_s (zIR_s (zIR_s (zIR_s (zIR_e (by omega) (by omega) hk))))))) zSub_nil)
          show ZW _ _ _ _ _ _ _ (60, [some (.ref 2), some (.int 0), some (.int v44_2), some (.int v44_3)], [], M37)
          refine w_inc (kk := 3) dX5_readTest_60 rfl (m := 1) (by decide) (by omega) ?_
          intro x44 h45
          refine ⟨_, rfl, ?_⟩
          replace hb : zHd _ := hb x44.toInt h45
          show ZW _ _ _ _ _ _ _ (63, [some (.ref 2), some (.int 0), some (.int v44_2), some (.int x44)], [], M37)
          refine w_gt dX5_readTest_63 (t := 11) rfl ?_
          obtain ⟨m, hm, hI⟩ := hb
          exact (ih m hm).2.1 M37 v44_2 x44 hJ43 (by omega) (by omega) (by omega) (by omega) hI
      · intro M v66_2 u66_3 hJ v66_20 v66_21 hI
        have hb : zHd _ := hb66 n (zi M) v66_2.toInt (zi_fr hJ.2) v66_20 v66_21 hI
        refine w_lo dX5_readTest_66 rfl rfl rfl rfl ?_
        rcases zcut (0 : Int) v66_2.toInt with h46 | h46
        · skip
          replace hb : zHd _ := hb.1 h46
          refine w_ile_f dX5_readTest_67 (t := 82) rfl (by omega) ?_
          refine w_lo dX5_readTest_70 rfl rfl rfl rfl ?_
          obtain ⟨b47, f48, h49⟩ := zd_2_8 hJ.1
          have h50 := zDm_b h49
          refine w_gf dX5_readTest_71 rfl hJ.1.1 zs_2 f48 ?_
          replace hb : zHd _ := hb b47 (ziR f48) (zDm_or h49)
          refine w_gf dX5_readTest_74 rfl hJ.1.1 (zs_1_0 h49) (zr_1_0_15 h49 hJ.1) ?_
          refine w_bi dX5_readTest_77 (c := (-18)) (by decide) ?_
          refine w_iv dX5_readTest_79 rfl rfl (As := [.int (-18)]) rfl rfl hJ.1.1 (zs_1_13 h49) (Nat.le_of_ble_eq_true rfl) ?_
          obtain ⟨P53, hp54, hb⟩ := hb
          replace hb : zHd _ := hb
          have hp54c : b_515 (b47 + 13) (zi M) ((-18) : Int32).toInt P53 := by rw [zt_m18]; exact hp54
          refine ZV.imp (u_515 (b47 + 13) (zLw_of h49) (-18) hN hJ.1 hp54c) ?_
          rintro _ ⟨M51, rfl, hJ52, hq55⟩
          replace hb : zHd _ := hb  (zi M51) (zi_fr hJ52.2) hq55
          have hJ57 := zJ_trans hJ hJ52 (zSub_cons (fun _ _ h h' hk => ((zDm_or h49).elim (fun e => zIR_s (zIR_s (zIR_e (by omega) (by omega) hk))) (fun e => zIR_s (zIR_s (zIR_s (zIR_e (by omega) (by omega) hk)))))) (zSub_cons (fun _ _ h h' hk => ((zDm_or h49).elim (fun e => zIR_s (zIR_s (zIR_s (zIR_s (zIR_a (by omega) (by omega)))))) (fun e => zIR_s (zIR_s (zIR_s (zIR_s (zIR_s (zIR_a (by omega) (by omega))))))))) zSub_nil))
          show ZW _ _ _ _ _ _ _ (82, [some (.ref 2), some (.int 0), some (.int v66_2), some (.int u66_3)], [], M51)
          refine w_lo dX5_readTest_82 rfl rfl rfl rfl ?_
          refine w_iv dX5_readTest_83 rfl rfl (As := []) rfl rfl hJ57.1.1 zs_2 (Nat.le_of_ble_eq_true rfl) ?_
          obtain ⟨P60, hp61, hb⟩ := hb
          replace hb : zHd _ := hb
          refine ZV.imp (u_1287 hN hJ57.1 hp61) ?_
          rintro _ ⟨x63, M58, rfl, h64, h65, hJ59, hq62⟩
          replace hb : zHd _ := hb x63.toInt h64 h65 (zi M58) (zi_fr hJ59.2) hq62
          have hJ67 := zJ_trans hJ57 hJ59 zSub_nil
          show ZW _ _ _ _ _ _ _ (86, [some (.ref 2), some (.int 0), some (.int v66_2), some (.int u66_3)], [.int x63], M58)
          refine w_bi dX5_readTest_86 (c := 21) (by decide) ?_
          rcases Int.decEq x63.toInt (21 : Int) with h68 | h68
          · skip
            replace hb : zHd _ := hb.1 h68
            refine w_ceq_f dX5_readTest_88 (t := 94) rfl (by have := zt_21; omega) ?_
            refine w_gt dX5_readTest_91 (t := 104) rfl ?_
            refine w_ic dX5_readTest_104 zi_1 ?_
            refine w_en dX5_readTest_105 rfl ?_
            exact ⟨_, _, rfl, (by have := zt_1; omega), (by have := zt_1; omega), hJ67, hb⟩
          · skip
            replace hb : zHd _ := hb.2 h68
            refine w_ceq_t dX5_readTest_88 (t := 94) rfl (by have := zt_21; omega) ?_
            refine w_lo dX5_readTest_94 rfl rfl rfl rfl ?_
            refine w_iv dX5_readTest_95 rfl rfl (As := []) rfl rfl hJ67.1.1 zs_2 (Nat.le_of_ble_eq_true rfl) ?_
            obtain ⟨P71, hp72, hb⟩ := hb
            replace hb : zHd _ := hb
            refine ZV.imp (u_1289 hN hJ67.1 hp72) ?_
            rintro _ ⟨M69, rfl, hJ70, hq73⟩
            replace hb : zHd _ := hb  (zi M69) (zi_fr hJ70.2) hq73
            have hJ75 := zJ_trans hJ67 hJ70 (zSub_cons (fun _ _ h h' hk => zIR_s (zIR_s (zIR_s (zIR_s (zIR_s (zIR_s (zIR_e (by omega) (by omega) hk))))))) zSub_nil)
            show ZW _ _ _ _ _ _ _ (98, [some (.ref 2), some (.int 0), some (.int v66_2), some (.int u66_3)], [], M69)
            refine w_inc (kk := 2) dX5_readTest_98 rfl (m := 1) (by decide) (by omega) ?_
            intro x76 h77
            refine ⟨_, rfl, ?_⟩
            replace hb : zHd _ := hb x76.toInt h77
            show ZW _ _ _ _ _ _ _ (101, [some (.ref 2), some (.int 0), some (.int x76), some (.int u66_3)], [], M69)
            refine w_gt dX5_readTest_101 (t := 2) rfl ?_
            obtain ⟨m, hm, hI⟩ := hb
            exact (ih m hm).1 M69 x76 (some (.int u66_3)) hJ75 (by omega) (by omega) hI
        · skip
          replace hb : zHd _ := hb.2 h46
          refine w_ile_t dX5_readTest_67 (t := 82) rfl (by omega) ?_
          refine w_lo dX5_readTest_82 rfl rfl rfl rfl ?_
          refine w_iv dX5_readTest_83 rfl rfl (As := []) rfl rfl hJ.1.1 zs_2 (Nat.le_of_ble_eq_true rfl) ?_
          obtain ⟨P80, hp81, hb⟩ := hb
          replace hb : zHd _ := hb
          refine ZV.imp (u_1287 hN hJ.1 hp81) ?_
          rintro _ ⟨x83, M78, rfl, h84, h85, hJ79, hq82⟩
          replace hb : zHd _ := hb x83.toInt h84 h85 (zi M78) (zi_fr hJ79.2) hq82
          have hJ87 := zJ_trans hJ hJ79 zSub_nil
          show ZW _ _ _ _ _ _ _ (86, [some (.ref 2), some (.int 0), some (.int v66_2), some (.int u66_3)], [.int x83], M78)
          refine w_bi dX5_readTest_86 (c := 21) (by decide) ?_
          rcases Int.decEq x83.toInt (21 : Int) with h88 | h88
          · skip
            replace hb : zHd _ := hb.1 h88
            refine w_ceq_f dX5_readTest_88 (t := 94) rfl (by have := zt_21; omega) ?_
            refine w_gt dX5_readTest_91 (t := 104) rfl ?_
            refine w_ic dX5_readTest_104 zi_1 ?_
            refine w_en dX5_readTest_105 rfl ?_
            exact ⟨_, _, rfl, (by have := zt_1; omega), (by have := zt_1; omega), hJ87, hb⟩
          · skip
            replace hb : zHd _ := hb.2 h88
            refine w_ceq_t dX5_readTest_88 (t := 94) rfl (by have := zt_21; omega) ?_
            refine w_lo dX5_readTest_94 rfl rfl rfl rfl ?_
            refine w_iv dX5_readTest_95 rfl rfl (As := []) rfl rfl hJ87.1.1 zs_2 (Nat.le_of_ble_eq_true rfl) ?_
            obtain ⟨P91, hp92, hb⟩ := hb
            replace hb : zHd _ := hb
            refine ZV.imp (u_1289 hN hJ87.1 hp92) ?_
            rintro _ ⟨M89, rfl, hJ90, hq93⟩
            replace hb : zHd _ := hb  (zi M89) (zi_fr hJ90.2) hq93
            have hJ95 := zJ_trans hJ87 hJ90 (zSub_cons (fun _ _ h h' hk => zIR_s (zIR_s (zIR_s (zIR_s (zIR_s (zIR_s (zIR_e (by omega) (by omega) hk))))))) zSub_nil)
            show ZW _ _ _ _ _ _ _ (98, [some (.ref 2), some (.int 0), some (.int v66_2), some (.int u66_3)], [], M89)
            refine w_inc (kk := 2) dX5_readTest_98 rfl (m := 1) (by decide) (by omega) ?_
            intro x96 h97
            refine ⟨_, rfl, ?_⟩
            replace hb : zHd _ := hb x96.toInt h97
            show ZW _ _ _ _ _ _ _ (101, [some (.ref 2), some (.int 0), some (.int x96), some (.int u66_3)], [], M89)
            refine w_gt dX5_readTest_101 (t := 2) rfl ?_
            obtain ⟨m, hm, hI⟩ := hb
            exact (ih m hm).1 M89 x96 (some (.int u66_3)) hJ95 (by omega) (by omega) hI
  have hb : zHd _ := hbE
  show ZW _ _ _ _ _ _ _ (0, [some (.ref 2), some (.int 0), none, none], [], M0)
  refine w_ic dX5_readTest_0 zi_0 ?_
  refine w_lo (ml' := [some (.ref 2), some (.int 0), some (.int 0), none]) dX5_readTest_1 rfl rfl rfl rfl ?_
  obtain ⟨m, hI⟩ := hb
  exact (main m).1 M0 0 none hJ0 (by have := zt_0; omega) (by have := zt_0; omega) hI
set_option maxRecDepth 100000 in
theorem u_1296 {X : List Int32} {d N : Nat} {M0 : zM} (a0 : Int32) (ha00 : (0 : Int) ≤ a0.toInt) (ha01 : a0.toInt ≤ 1) (hN : N ≤ 600) (hB0 : zB N M0) {Q : Int → zF → Prop} (hb : b_1296 (zi M0) a0.toInt Q) : ZV X (d + 22) 1296 [.ref 2, .int a0] M0 (zRI N [(2, 3, 0), (20, 21, 0), (41, 42, 0), (2, 3, 1), (20, 21, 1), (41, 42, 1), (21, 26, 1000), (42, 47, 1000), (2, 3, 7)] M0 (0) (1) (fun v M' => Q v.toInt (zi M'))) := by
  have hJ0 : zJ N [(2, 3, 0), (20, 21, 0), (41, 42, 0), (2, 3, 1), (20, 21, 1), (41, 42, 1), (21, 26, 1000), (42, 47, 1000), (2, 3, 7)] M0 M0 := zJ_refl hB0
  refine ZV.of (ini := false) rfl (Nat.le_of_ble_eq_true rfl) (by decide +kernel) ?_
  unfold b_1296 at hb
  replace hb : zHd _ := hb
  show ZW _ _ _ _ _ _ _ (0, [some (.ref 2), some (.int a0)], [], M0)
  refine w_lo dX5_readLaw_0 rfl rfl rfl rfl ?_
  obtain ⟨b1, f2, h3⟩ := zd_2_8 hJ0.1
  have h4 := zDm_b h3
  refine w_gf dX5_readLaw_1 rfl hJ0.1.1 zs_2 f2 ?_
  replace hb : zHd _ := hb b1 (ziR f2) (zDm_or h3)
  refine w_gf dX5_readLaw_4 rfl hJ0.1.1 (zs_1_0 h3) (zr_1_0_15 h3 hJ0.1) ?_
  refine w_gfi dX5_readLaw_7 rfl hJ0.1 (zs_1_13 h3) (Nat.le_of_ble_eq_true rfl) (zo_1_13_0 h3) ?_
  intro x5 f6 h7 h8
  replace hb : zHd _ := hb x5.toInt (ziE f6) h7 h8
  refine w_bi dX5_readLaw_10 (c := 8) (by decide) ?_
  rcases zcut x5.toInt (8 : Int) with h9 | h9
  · skip
    replace hb : zHd _ := hb.1 h9
    refine w_clt_t dX5_readLaw_12 (t := 21) rfl (by have := zt_8; omega) ?_
    refine w_lo dX5_readLaw_21 rfl rfl rfl rfl ?_
    refine w_iv dX5_readLaw_22 rfl rfl (As := []) rfl rfl hJ0.1.1 zs_2 (Nat.le_of_ble_eq_true rfl) ?_
    obtain ⟨P12, hp13, hb⟩ := hb
    replace hb : zHd _ := hb
    refine ZV.imp (u_1289 hN hJ0.1 hp13) ?_
    rintro _ ⟨M10, rfl, hJ11, hq14⟩
    replace hb : zHd _ := hb  (zi M10) (zi_fr hJ11.2) hq14
    have hJ16 := zJ_trans hJ0 hJ11 (zSub_cons (fun _ _ h h' hk => zIR_s (zIR_s (zIR_s (zIR_s (zIR_s (zIR_s (zIR_s (zIR_s (zIR_e (by omega) (by omega) hk))))))))) zSub_nil)
    show ZW _ _ _ _ _ _ _ (25, [some (.ref 2), some (.int a0)], [], M10)
    refine w_lo dX5_readLaw_25 rfl rfl rfl rfl ?_
    have f17 := (hJ11.2 (2) 8 (zNI_k (by decide) (by decide) zNI_nil)).trans (f2)
    refine w_gf dX5_readLaw_26 rfl hJ16.1.1 zs_2 f17 ?_
    refine w_gf dX5_readLaw_29 rfl hJ16.1.1 (zs_1_0 h3) (zr_1_0_15 h3 hJ16.1) ?_
    refine w_lo dX5_readLaw_32 rfl rfl rfl rfl ?_
    refine w_iv dX5_readLaw_33 rfl rfl (As := [.int a0]) rfl rfl hJ16.1.1 (zs_1_13 h3) (Nat.le_of_ble_eq_true rfl) ?_
    obtain ⟨P20, hp21, hb⟩ := hb
    replace hb : zHd _ := hb
    refine ZV.imp (u_514 (b1 + 13) (zLw_of h3) a0 (by omega) (by omega) hN hJ16.1 hp21) ?_
    rintro _ ⟨M18, rfl, hJ19, hq22⟩
    replace hb : zHd _ := hb  (zi M18) (zi_fr hJ19.2) hq22
    have hJ24 := zJ_trans hJ16 hJ19 (zSub_cons (fun _ _ h h' hk => ((zDm_or h3).elim (fun e => zIR_s (zIR_s (zIR_s (zIR_s (zIR_s (zIR_s (zIR_a (by omega) (by omega)))))))) (fun e => zIR_s (zIR_s (zIR_s (zIR_s (zIR_s (zIR_s (zIR_s (zIR_a (by omega) (by omega))))))))))) zSub_nil)
    show ZW _ _ _ _ _ _ _ (36, [some (.ref 2), some (.int a0)], [], M18)
    refine w_lo dX5_readLaw_36 rfl rfl rfl rfl ?_
    refine w_ic dX5_readLaw_37 zi_0 ?_
    refine w_iv dX5_readLaw_38 rfl rfl (As := [.int 0]) rfl rfl hJ24.1.1 zs_2 (Nat.le_of_ble_eq_true rfl) ?_
    obtain ⟨P27, hp28, hb⟩ := hb
    replace hb : zHd _ := hb
    refine ZV.imp (u_1297_c0 hN hJ24.1 hp28) ?_
    rintro _ ⟨x30, M25, rfl, h31, h32, hJ26, hq29⟩
    replace hb : zHd _ := hb x30.toInt h31 h32 (zi M25) (zi_fr hJ26.2) hq29
    have hJ34 := zJ_trans hJ24 hJ26 (zSub_cons (fun _ _ h h' hk => zIR_e (by omega) (by omega) hk) (zSub_cons (fun _ _ h h' hk => zIR_s (zIR_s (zIR_s (zIR_e (by omega) (by omega) hk)))) (zSub_cons (fun _ _ h h' hk => zIR_s (zIR_s (zIR_s (zIR_s (zIR_e (by omega) (by omega) hk))))) (zSub_cons (fun _ _ h h' hk => zIR_s (zIR_s (zIR_s (zIR_s (zIR_s (zIR_e (by omega) (by omega) hk)))))) (zSub_cons (fun _ _ h h' hk => zIR_s (zIR_s (zIR_s (zIR_s (zIR_s (zIR_s (zIR_a (by omega) (by omega)))))))) (zSub_cons (fun _ _ h h' hk => zIR_s (zIR_s (zIR_s (zIR_s (zIR_s (zIR_s (zIR_s (zIR_a (by omega) (by omega))))))))) (zSub_cons (fun _ _ h h' hk => zIR_s (zIR_s (zIR_s (zIR_s (zIR_s (zIR_s (zIR_s (zIR_s (zIR_e (by omega) (by omega) hk))))))))) zSub_nil)))))))
    show ZW _ _ _ _ _ _ _ (41, [some (.ref 2), some (.int a0)], [.int x30], M25)
    rcases Int.decEq x30.toInt (0 : Int) with h35 | h35
    · skip
      replace hb : zHd _ := hb.1 h35
      refine w_ieq_f dX5_readLaw_41 (t := 53) rfl (by omega) ?_
      refine w_lo dX5_readLaw_44 rfl rfl rfl rfl ?_
      refine w_bi dX5_readLaw_45 (c := 20) (by decide) ?_
      refine w_iv dX5_readLaw_47 rfl rfl (As := [.int 20]) rfl rfl hJ34.1.1 zs_2 (Nat.le_of_ble_eq_true rfl) ?_
      obtain ⟨P38, hp39, hb⟩ := hb
      replace hb : zHd _ := hb
      have hp39c : b_1291 (zi M25) (20 : Int32).toInt P38 := by rw [zt_20]; exact hp39
      refine ZV.imp (u_1291 20 (by have := zt_20; omega) (by have := zt_20; omega) hN hJ34.1 hp39c) ?_
      rintro _ ⟨x41, M36, rfl, h42, h43, hJ37, hq40⟩
      replace hb : zHd _ := hb x41.toInt h42 h43 (zi M36) (zi_fr hJ37.2) hq40
      have hJ45 := zJ_trans hJ34 hJ37 (zSub_cons (fun _ _ h h' hk => zIR_e (by omega) (by omega) hk) (zSub_cons (fun _ _ h h' hk => zIR_s (zIR_s (zIR_s (zIR_e (by omega) (by omega) hk)))) (zSub_cons (fun _ _ h h' hk => zIR_s (zIR_s (zIR_s (zIR_s (zIR_s (zIR_s (zIR_s (zIR_s (zIR_e (by omega) (by omega) hk))))))))) zSub_nil)))
      show ZW _ _ _ _ _ _ _ (50, [some (.ref 2), some (.int a0)], [.int x41], M36)
      rcases Int.decEq x41.toInt (0 : Int) with h46 | h46
      · skip
        replace hb : zHd _ := hb.1 h46
        refine w_ine_t dX5_readLaw_50 (t := 55) rfl (by omega) ?_
        refine w_lo dX5_readLaw_55 rfl rfl rfl rfl ?_
        have f47 := (hJ37.2 (2) 8 (zNI_k (by decide) (by decide) (zNI_k (by decide) (by decide) (zNI_k (by decide) (by decide) zNI_nil)))).trans ((hJ26.2 (2) 8 (zNI_k (by decide) (by decide) (zNI_k (by decide) (by decide) (zNI_k (by decide) (by decide) (zNI_k (by decide) (by decide) (zNI (by omega) (zNI (by omega) (zNI_k (by decide) (by decide) zNI_nil)))))))).trans ((hJ19.2 (2) 8 (zNI (by omega) zNI_nil)).trans (f17)))
        refine w_gf dX5_readLaw_56 rfl hJ45.1.1 zs_2 f47 ?_
        refine w_gf dX5_readLaw_59 rfl hJ45.1.1 (zs_1_0 h3) (zr_1_0_15 h3 hJ45.1) ?_
        refine w_iv dX5_readLaw_62 rfl rfl (As := []) rfl rfl hJ45.1.1 (zs_1_13 h3) (Nat.le_of_ble_eq_true rfl) ?_
        obtain ⟨P50, hp51, hb⟩ := hb
        replace hb : zHd _ := hb
        refine ZV.imp (u_516 (b1 + 13) (zLw_of h3) hN hJ45.1 hp51) ?_
        rintro _ ⟨M48, rfl, hJ49, hq52⟩
        replace hb : zHd _ := hb  (zi M48) (zi_fr hJ49.2) hq52
        have hJ54 := zJ_trans hJ45 hJ49 (zSub_cons (fun _ _ h h' hk => ((zDm_or h3).elim (fun e => zIR_s (zIR_s (zIR_s (zIR_s (zIR_s (zIR_s (zIR_a (by omega) (by omega)))))))) (fun e => zIR_s (zIR_s (zIR_s (zIR_s (zIR_s (zIR_s (zIR_s (zIR_a (by omega) (by omega))))))))))) zSub_nil)
        show ZW _ _ _ _ _ _ _ (65, [some (.ref 2), some (.int a0)], [], M48)
        refine w_lo dX5_readLaw_65 rfl rfl rfl rfl ?_
        refine w_ic dX5_readLaw_66 zi_0 ?_
        refine w_iv dX5_readLaw_67 rfl rfl (As := [.int 0]) rfl rfl hJ54.1.1 zs_2 (Nat.le_of_ble_eq_true rfl) ?_
        obtain ⟨P57, hp58, hb⟩ := hb
        replace hb : zHd _ := hb
        refine ZV.imp (u_1300_c0 hN hJ54.1 hp58) ?_
        rintro _ ⟨x60, M55, rfl, h61, h62, hJ56, hq59⟩
        replace hb : zHd _ := hb x60.toInt h61 h62 (zi M55) (zi_fr hJ56.2) hq59
        have hJ64 := zJ_trans hJ54 hJ56 (zSub_cons (fun _ _ h h' hk => zIR_e (by omega) (by omega) hk) (zSub_cons (fun _ _ h h' hk => zIR_s (zIR_s (zIR_s (zIR_e (by omega) (by omega) hk)))) (zSub_cons (fun _ _ h h' hk => zIR_s (zIR_s (zIR_s (zIR_s (zIR_e (by omega) (by omega) hk))))) (zSub_cons (fun _ _ h h' hk => zIR_s (zIR_s (zIR_s (zIR_s (zIR_s (zIR_e (by omega) (by omega) hk)))))) (zSub_cons (fun _ _ h h' hk => zIR_s (zIR_s (zIR_s (zIR_s (zIR_s (zIR_s (zIR_a (by omega) (by omega)))))))) (zSub_cons (fun _ _ h h' hk => zIR_s (zIR_s (zIR_s (zIR_s (zIR_s (zIR_s (zIR_s (zIR_a (by omega) (by omega))))))))) (zSub_cons (fun _ _ h h' hk => zIR_s (zIR_s (zIR_s (zIR_s (zIR_s (zIR_s (zIR_s (zIR_s (zIR_e (by omega) (by omega) hk))))))))) zSub_nil)))))))
        show ZW _ _ _ _ _ _ _ (70, [some (.ref 2), some (.int a0)], [.int x60], M55)
        rcases Int.decEq x60.toInt (0 : Int) with h65 | h65
        · skip
          replace hb : zHd _ := hb.1 h65
          refine w_ine_t dX5_readLaw_70 (t := 75) rfl (by omega) ?_
          refine w_lo dX5_readLaw_75 rfl rfl rfl rfl ?_
          have f66 := (hJ56.2 (2) 8 (zNI_k (by decide) (by decide) (zNI_k (by decide) (by decide) (zNI_k (by decide) (by decide) (zNI_k (by decide) (by decide) (zNI (by omega) (zNI (by omega) (zNI_k (by decide) (by decide) zNI_nil)))))))).trans ((hJ49.2 (2) 8 (zNI (by omega) zNI_nil)).trans (f47))
          refine w_gf dX5_readLaw_76 rfl hJ64.1.1 zs_2 f66 ?_
          refine w_gf dX5_readLaw_79 rfl hJ64.1.1 (zs_1_0 h3) (zr_1_0_15 h3 hJ64.1) ?_
          refine w_iv dX5_readLaw_82 rfl rfl (As := []) rfl rfl hJ64.1.1 (zs_1_13 h3) (Nat.le_of_ble_eq_true rfl) ?_
          obtain ⟨P69, hp70, hb⟩ := hb
          replace hb : zHd _ := hb
          refine ZV.imp (u_517 (b1 + 13) (zLw_of h3) hN hJ64.1 hp70) ?_
          rintro _ ⟨M67, rfl, hJ68, hq71⟩
          replace hb : zHd _ := hb  (zi M67) (zi_fr hJ68.2) hq71
          have hJ73 := zJ_trans hJ64 hJ68 (zSub_cons (fun _ _ h h' hk => ((zDm_or h3).elim (fun e => zIR_s (zIR_e (by omega) (by omega) hk)) (fun e => zIR_s (zIR_s (zIR_e (by omega) (by omega) hk))))) (zSub_cons (fun _ _ h h' hk => ((zDm_or h3).elim (fun e => zIR_s (zIR_s (zIR_s (zIR_s (zIR_s (zIR_s (zIR_a (by omega) (by omega)))))))) (fun e => zIR_s (zIR_s (zIR_s (zIR_s (zIR_s (zIR_s (zIR_s (zIR_a (by omega) (by omega))))))))))) zSub_nil))
          show ZW _ _ _ _ _ _ _ (85, [some (.ref 2), some (.int a0)], [], M67)
          refine w_ic dX5_readLaw_85 zi_1 ?_
          refine w_en dX5_readLaw_86 rfl ?_
          exact ⟨_, _, rfl, (by have := zt_1; omega), (by have := zt_1; omega), hJ73, hb⟩
        · skip
          replace hb : zHd _ := hb.2 h65
          refine w_ine_f dX5_readLaw_70 (t := 75) rfl (by omega) ?_
          refine w_ic dX5_readLaw_73 zi_0 ?_
          refine w_en dX5_readLaw_74 rfl ?_
          exact ⟨_, _, rfl, (by have := zt_0; omega), (by have := zt_0; omega), hJ64, hb⟩
      · skip
        replace hb : zHd _ := hb.2 h46
        refine w_ine_f dX5_readLaw_50 (t := 55) rfl (by omega) ?_
        refine w_ic dX5_readLaw_53 zi_0 ?_
        refine w_en dX5_readLaw_54 rfl ?_
        exact ⟨_, _, rfl, (by have := zt_0; omega), (by have := zt_0; omega), hJ45, hb⟩
    · skip
      replace hb : zHd _ := hb.2 h35
      refine w_ieq_t dX5_readLaw_41 (t := 53) rfl (by omega) ?_
      refine w_ic dX5_readLaw_53 zi_0 ?_
      refine w_en dX5_readLaw_54 rfl ?_
      exact ⟨_, _, rfl, (by have := zt_0; omega), (by have := zt_0; omega), hJ34, hb⟩
  · skip
    replace hb : zHd _ := hb.2 h9
    refine w_clt_f dX5_readLaw_12 (t := 21) rfl (by have := zt_8; omega) ?_
    refine w_lo dX5_readLaw_15 rfl rfl rfl rfl ?_
    refine w_ic dX5_readLaw_16 zi_5 ?_
    refine w_iv dX5_readLaw_17 rfl rfl (As := [.int 5]) rfl rfl hJ0.1.1 zs_2 (Nat.le_of_ble_eq_true rfl) ?_
    obtain ⟨P76, hp77, hb⟩ := hb
    replace hb : zHd _ := hb
    have hp77c : b_1286 (zi M0) (5 : Int32).toInt P76 := by rw [zt_5]; exact hp77
    refine ZV.imp (u_1286 5 (by have := zt_5; omega) (by have := zt_5; omega) hN hJ0.1 hp77c) ?_
    rintro _ ⟨x79, M74, rfl, h80, h81, hJ75, hq78⟩
    replace hb : zHd _ := hb x79.toInt h80 h81 (zi M74) (zi_fr hJ75.2) hq78
    have hJ83 := zJ_trans hJ0 hJ75 (zSub_cons (fun _ _ h h' hk => zIR_e (by omega) (by omega) hk) (zSub_cons (fun _ _ h h' hk => zIR_s (zIR_s (zIR_s (zIR_e (by omega) (by omega) hk)))) zSub_nil))
    show ZW _ _ _ _ _ _ _ (20, [some (.ref 2), some (.int a0)], [.int x79], M74)
    refine w_eni dX5_readLaw_20 rfl (znb (by omega) (by omega)) ?_
    exact ⟨_, _, rfl, (by omega), (by omega), hJ83, hb⟩
set_option maxRecDepth 100000 in
theorem u_1281 {X : List Int32} {d N : Nat} {M0 : zM} (a1 : Int32) (ha10 : (0 : Int) ≤ a1.toInt) (ha11 : a1.toInt ≤ 1600) (hN : N ≤ 600) (hB0 : zB N M0) {Q : Int → zF → Prop} (hb : b_1281 (zi M0) a1.toInt Q) : ZV X (d + 23) 1281 [.ref 2, .ref 1, .int a1] M0 (zRI N [(2, 3, 0), (7, 8, 0), (20, 21, 0), (28, 29, 0), (41, 42, 0), (2, 3, 1), (7, 8, 1), (20, 21, 1), (28, 29, 1), (41, 42, 1), (2, 3, 10), (4, 7, 1000), (8, 20, 1000), (21, 26, 1000), (29, 41, 1000), (42, 47, 1000), (7, 8, 2), (28, 29, 2), (2, 3, 6), (2, 3, 7), (2, 3, 9)] M0 (0) (1) (fun v M' => Q v.toInt (zi M'))) := by
  have hJ0 : zJ N [(2, 3, 0), (7, 8, 0), (20, 21, 0), (28, 29, 0), (41, 42, 0), (2, 3, 1), (7, 8, 1), (20, 21, 1), (28, 29, 1), (41, 42, 1), (2, 3, 10), (4, 7, 1000), (8, 20, 1000), (21, 26, 1000), (29, 41, 1000), (42, 47, 1000), (7, 8, 2), (28, 29, 2), (2, 3, 6), (2, 3, 7), (2, 3, 9)] M0 M0 := zJ_refl hB0
  refine ZV.of (ini := false) rfl (Nat.le_of_ble_eq_true rfl) (by decide +kernel) ?_
  obtain ⟨I30, hbE, hb30⟩ := hb
  replace hbE : zHd _ := hbE
  replace hb30 : zHd _ := hb30
  have main : ∀ n : Nat,
      (∀ (M : zM) (o30_1 : Option Value) (u30_2 : Int32) (v30_3 : Int32) (o30_4 : Option Value), zJ N [(2, 3, 0), (7, 8, 0), (20, 21, 0), (28, 29, 0), (41, 42, 0), (2, 3, 1), (7, 8, 1), (20, 21, 1), (28, 29, 1), (41, 42, 1), (2, 3, 10), (4, 7, 1000), (8, 20, 1000), (21, 26, 1000), (29, 41, 1000), (42, 47, 1000), (7, 8, 2), (28, 29, 2), (2, 3, 6), (2, 3, 7), (2, 3, 9)] M0 M → ((0 : Int) ≤ v30_3.toInt) → (v30_3.toInt ≤ 90) → I30 n (zi M) v30_3.toInt → ZW X (d + 22) 5 false (some .boolean) cX5_read (zRI N [(2, 3, 0), (7, 8, 0), (20, 21, 0), (28, 29, 0), (41, 42, 0), (2, 3, 1), (7, 8, 1), (20, 21, 1), (28, 29, 1), (41, 42, 1), (2, 3, 10), (4, 7, 1000), (8, 20, 1000), (21, 26, 1000), (29, 41, 1000), (42, 47, 1000), (7, 8, 2), (28, 29, 2), (2, 3, 6), (2, 3, 7), (2, 3, 9)] M0 (0) (1) (fun v M' => Q v.toInt (zi M'))) (30, [some (.ref 2), o30_1, some (.int u30_2), some (.int v30_3), o30_4], [], M)) := by
    intro n
    induction n using Nat.strongRecOn with
    | _ n ih =>
      · intro M o30_1 u30_2 v30_3 o30_4 hJ v30_30 v30_31 hI
        have hb : zHd _ := hb30 n (zi M) v30_3.toInt (zi_fr hJ.2) v30_30 v30_31 hI
        refine w_lo dX5_read_30 rfl rfl rfl rfl ?_
        refine w_bi dX5_read_31 (c := 90) (by decide) ?_
        refine w_cgt_f dX5_read_33 (t := 226) rfl (by have := zt_90; omega) ?_
        refine w_lo dX5_read_36 rfl rfl rfl rfl ?_
        refine w_gf dX5_read_37 rfl hJ.1.1 zs_2 (zr_2_3 hJ.1) ?_
        refine w_lo dX5_read_40 rfl rfl rfl rfl ?_
        refine w_gfi dX5_read_41 rfl hJ.1 zs_2 (Nat.le_of_ble_eq_true rfl) zo_2_7 ?_
        intro x1 f2 h3 h4
        replace hb : zHd _ := hb x1.toInt (ziE f2) h3 h4
        refine w_iai dX5_read_44 hJ.1 zs_4 (by omega) (by omega) zu_4 ?_
        intro x8 f5 h6 h7
        replace hb : zHd _ := hb x8.toInt (ziEk f5 rfl) h6 h7
        rcases Int.decEq x8.toInt (0 : Int) with h9 | h9
        · skip
          replace hb : zHd _ := hb.1 h9
          refine w_ine_t dX5_read_45 (t := 58) rfl (by omega) ?_
          refine w_lo dX5_read_58 rfl rfl rfl rfl ?_
          refine w_bi dX5_read_59 (c := 90) (by decide) ?_
          rcases Int.decEq v30_3.toInt (90 : Int) with h10 | h10
          · skip
            replace hb : zHd _ := hb.1 h10
            refine w_cne_t dX5_read_61 (t := 70) rfl (by have := zt_90; omega) ?_
            refine w_lo dX5_read_70 rfl rfl rfl rfl ?_
            refine w_iv dX5_read_71 rfl rfl (As := []) rfl rfl hJ.1.1 zs_2 (Nat.le_of_ble_eq_true rfl) ?_
            obtain ⟨P13, hp14, hb⟩ := hb
            replace hb : zHd _ := hb
            refine ZV.imp (u_1287 hN hJ.1 hp14) ?_
            rintro _ ⟨x16, M11, rfl, h17, h18, hJ12, hq15⟩
            replace hb : zHd _ := hb x16.toInt h17 h18 (zi M11) (zi_fr hJ12.2) hq15
            have hJ20 := zJ_trans hJ hJ12 zSub_nil
            show ZW _ _ _ _ _ _ _ (74, [some (.ref 2), o30_1, some (.int u30_2), some (.int v30_3), o30_4], [.int x16], M11)
            rcases Int.decEq x16.toInt (7 : Int) with h21 | h21
            rotate_left
            · skip
              replace hb : zHd _ := hb.1 h21
              refine w_ts dX5_read_74 (t := 140) (j := 7) h21 (by decide) ?_
              refine w_lo dX5_read_140 rfl rfl rfl rfl ?_
              refine w_iv dX5_read_141 rfl rfl (As := []) rfl rfl hJ20.1.1 zs_2 (Nat.le_of_ble_eq_true rfl) ?_
              obtain ⟨P24, hp25, hb⟩ := hb
              replace hb : zHd _ := hb
              refine ZV.imp (u_1288 hN hJ20.1 hp25) ?_
              rintro _ ⟨x27, M22, rfl, h28, h29, hJ23, hq26⟩
              replace hb : zHd _ := hb x27.toInt h28 h29 (zi M22) (zi_fr hJ23.2) hq26
              have hJ31 := zJ_trans hJ20 hJ23 (zSub_cons (fun _ _ h h' hk => zIR_e (by omega) (by omega) hk) (zSub_cons (fun _ _ h h' hk => zIR_s (zIR_s (zIR_s (zIR_s (zIR_s (zIR_e (by omega) (by omega) hk)))))) (zSub_cons (fun _ _ h h' hk => zIR_s (zIR_s (zIR_s (zIR_s (zIR_s (zIR_s (zIR_e (by omega) (by omega) hk))))))) (zSub_cons (fun _ _ h h' hk => zIR_s (zIR_s (zIR_s (zIR_s (zIR_s (zIR_s (zIR_s (zIR_s (zIR_e (by omega) (by omega) hk))))))))) (zSub_cons (fun _ _ h h' hk => zIR_s (zIR_s (zIR_s (zIR_s (zIR_s (zIR_s (zIR_s (zIR_s (zIR_s (zIR_s (zIR_e (by omega) (by omega) hk))))))))))) (zSub_cons (fun _ _ h h' hk => zIR_s (zIR_s (zIR_s (zIR_s (zIR_s (zIR_s (zIR_s (zIR_s (zIR_s (zIR_s (zIR_s (zIR_s (zIR_a (by omega) (by omega)))))))))))))) (zSub_cons (fun _ _ h h' hk => zIR_s (zIR_s (zIR_s (zIR_s (zIR_s (zIR_s (zIR_s (zIR_s (zIR_s (zIR_s (zIR_s (zIR_s (zIR_s (zIR_s (zIR_a (by omega) (by omega)))))))))))))))) (zSub_cons (fun _ _ h h' hk => zIR_s (zIR_s (zIR_s (zIR_s (zIR_s (zIR_s (zIR_s (zIR_s (zIR_s (zIR_s (zIR_s (zIR_s (zIR_s (zIR_s (zIR_s (zIR_s (zIR_s (zIR_s (zIR_s (zIR_e (by omega) (by omega) hk)))))))))))))))))))) (zSub_cons (fun _ _ h h' hk => zIR_s (zIR_s (zIR_s (zIR_s (zIR_s (zIR_s (zIR_s (zIR_s (zIR_s (zIR_s (zIR_s (zIR_s (zIR_s (zIR_s (zIR_s (zIR_s (zIR_s (zIR_s (zIR_s (zIR_s (zIR_e (by omega) (by omega) hk))))))))))))))))))))) zSub_nil)))))))))
              show ZW _ _ _ _ _ _ _ (144, [some (.ref 2), o30_1, some (.int u30_2), some (.int v30_3), o30_4], [.int x27], M22)
              refine w_lo (ml' := [some (.ref 2), o30_1, some (.int u30_2), some (.int v30_3), some (.int x27)]) dX5_read_144 rfl rfl rfl rfl ?_
              refine w_gt dX5_read_146 (t := 194) rfl ?_
              refine w_lo dX5_read_194 rfl rfl rfl rfl ?_
              rcases Int.decEq x27.toInt (0 : Int) with h32 | h32
              · skip
                replace hb : zHd _ := hb.1 h32
                refine w_ine_t dX5_read_196 (t := 201) rfl (by omega) ?_
                refine w_lo dX5_read_201 rfl rfl rfl rfl ?_
                refine w_bi dX5_read_202 (c := 59) (by decide) ?_
                refine w_iv dX5_read_204 rfl rfl (As := [.int 59]) rfl rfl hJ31.1.1 zs_2 (Nat.le_of_ble_eq_true rfl) ?_
                obtain ⟨P35, hp36, hb⟩ := hb
                replace hb : zHd _ := hb
                have hp36c : b_1299 (zi M22) (59 : Int32).toInt P35 := by rw [zt_59]; exact hp36
                refine ZV.imp (u_1299 59 (by have := zt_59; omega) (by have := zt_59; omega) hN hJ31.1 hp36c) ?_
                rintro _ ⟨x38, M33, rfl, h39, h40, hJ34, hq37⟩
                replace hb : zHd _ := hb x38.toInt h39 h40 (zi M33) (zi_fr hJ34.2) hq37
                have hJ42 := zJ_trans hJ31 hJ34 zSub_nil
                show ZW _ _ _ _ _ _ _ (207, [some (.ref 2), o30_1, some (.int u30_2), some (.int v30_3), some (.int x27)], [.int x38], M33)
                rcases Int.decEq x38.toInt (0 : Int) with h43 | h43
                · skip
                  replace hb : zHd _ := hb.1 h43
                  refine w_ine_t dX5_read_207 (t := 216) rfl (by omega) ?_
                  refine w_lo dX5_read_216 rfl rfl rfl rfl ?_
                  refine w_iv dX5_read_217 rfl rfl (As := []) rfl rfl hJ42.1.1 zs_2 (Nat.le_of_ble_eq_true rfl) ?_
                  obtain ⟨P46, hp47, hb⟩ := hb
                  replace hb : zHd _ := hb
                  refine ZV.imp (u_1289 hN hJ42.1 hp47) ?_
                  rintro _ ⟨M44, rfl, hJ45, hq48⟩
                  replace hb : zHd _ := hb  (zi M44) (zi_fr hJ45.2) hq48
                  have hJ50 := zJ_trans hJ42 hJ45 (zSub_cons (fun _ _ h h' hk => zIR_s (zIR_s (zIR_s (zIR_s (zIR_s (zIR_s (zIR_s (zIR_s (zIR_s (zIR_s (zIR_s (zIR_s (zIR_s (zIR_s (zIR_s (zIR_s (zIR_s (zIR_s (zIR_s (zIR_e (by omega) (by omega) hk)))))))))))))))))))) zSub_nil)
                  show ZW _ _ _ _ _ _ _ (220, [some (.ref 2), o30_1, some (.int u30_2), some (.int v30_3), some (.int x27)], [], M44)
                  refine w_inc (kk := 3) dX5_read_220 rfl (m := 1) (by decide) (by omega) ?_
                  intro x51 h52
                  refine ⟨_, rfl, ?_⟩
                  replace hb : zHd _ := hb x51.toInt h52
                  show ZW _ _ _ _ _ _ _ (223, [some (.ref 2), o30_1, some (.int u30_2), some (.int x51), some (.int x27)], [], M44)
                  refine w_gt dX5_read_223 (t := 30) rfl ?_
                  obtain ⟨m, hm, hI⟩ := hb
                  exact (ih m hm) M44 o30_1 u30_2 x51 (some (.int x27)) hJ50 (by omega) (by omega) hI
                · skip
                  replace hb : zHd _ := hb.2 h43
                  refine w_ine_f dX5_read_207 (t := 216) rfl (by omega) ?_
                  refine w_lo dX5_read_210 rfl rfl rfl rfl ?_
                  refine w_ic dX5_read_211 zi_1 ?_
                  refine w_iv dX5_read_212 rfl rfl (As := [.int 1]) rfl rfl hJ42.1.1 zs_2 (Nat.le_of_ble_eq_true rfl) ?_
                  obtain ⟨P55, hp56, hb⟩ := hb
                  replace hb : zHd _ := hb
                  have hp56c : b_1286 (zi M33) (1 : Int32).toInt P55 := by rw [zt_1]; exact hp56
                  refine ZV.imp (u_1286 1 (by have := zt_1; omega) (by have := zt_1; omega) hN hJ42.1 hp56c) ?_
                  rintro _ ⟨x58, M53, rfl, h59, h60, hJ54, hq57⟩
                  replace hb : zHd _ := hb x58.toInt h59 h60 (zi M53) (zi_fr hJ54.2) hq57
                  have hJ62 := zJ_trans hJ42 hJ54 (zSub_cons (fun _ _ h h' hk => zIR_e (by omega) (by omega) hk) (zSub_cons (fun _ _ h h' hk => zIR_s (zIR_s (zIR_s (zIR_s (zIR_s (zIR_e (by omega) (by omega) hk)))))) zSub_nil))
                  show ZW _ _ _ _ _ _ _ (215, [some (.ref 2), o30_1, some (.int u30_2), some (.int v30_3), some (.int x27)], [.int x58], M53)
                  refine w_eni dX5_read_215 rfl (znb (by omega) (by omega)) ?_
                  exact ⟨_, _, rfl, (by omega), (by omega), hJ62, hb⟩
              · skip
                replace hb : zHd _ := hb.2 h32
                refine w_ine_f dX5_read_196 (t := 201) rfl (by omega) ?_
                refine w_ic dX5_read_199 zi_0 ?_
                refine w_en dX5_read_200 rfl ?_
                exact ⟨_, _, rfl, (by have := zt_0; omega), (by have := zt_0; omega), hJ31, hb⟩
            replace hb : zHd _ := hb.2 h21
            rcases Int.decEq x16.toInt (8 : Int) with h63 | h63
            rotate_left
            · skip
              replace hb : zHd _ := hb.1 h63
              refine w_ts dX5_read_74 (t := 187) (j := 8) h63 (by decide) ?_
              refine w_lo dX5_read_187 rfl rfl rfl rfl ?_
              refine w_ic dX5_read_188 zi_1 ?_
              refine w_iv dX5_read_189 rfl rfl (As := [.int 1]) rfl rfl hJ20.1.1 zs_2 (Nat.le_of_ble_eq_true rfl) ?_
              obtain ⟨P66, hp67, hb⟩ := hb
              replace hb : zHd _ := hb
              have hp67c : b_1286 (zi M11) (1 : Int32).toInt P66 := by rw [zt_1]; exact hp67
              refine ZV.imp (u_1286 1 (by have := zt_1; omega) (by have := zt_1; omega) hN hJ20.1 hp67c) ?_
              rintro _ ⟨x69, M64, rfl, h70, h71, hJ65, hq68⟩
              replace hb : zHd _ := hb x69.toInt h70 h71 (zi M64) (zi_fr hJ65.2) hq68
              have hJ73 := zJ_trans hJ20 hJ65 (zSub_cons (fun _ _ h h' hk => zIR_e (by omega) (by omega) hk) (zSub_cons (fun _ _ h h' hk => zIR_s (zIR_s (zIR_s (zIR_s (zIR_s (zIR_e (by omega) (by omega) hk)))))) zSub_nil))
              show ZW _ _ _ _ _ _ _ (192, [some (.ref 2), o30_1, some (.int u30_2), some (.int v30_3), o30_4], [.int x69], M64)
              refine w_lo (ml' := [some (.ref 2), o30_1, some (.int u30_2), some (.int v30_3), some (.int x69)]) dX5_read_192 rfl rfl rfl rfl ?_
              refine w_lo dX5_read_194 rfl rfl rfl rfl ?_
              refine w_ine_f dX5_read_196 (t := 201) rfl (by omega) ?_
              refine w_ic dX5_read_199 zi_0 ?_
              refine w_en dX5_read_200 rfl ?_
              exact ⟨_, _, rfl, (by have := zt_0; omega), (by have := zt_0; omega), hJ73, hb⟩
            replace hb : zHd _ := hb.2 h63
            rcases Int.decEq x16.toInt (9 : Int) with h74 | h74
            rotate_left
            · skip
              replace hb : zHd _ := hb.1 h74
              refine w_ts dX5_read_74 (t := 187) (j := 9) h74 (by decide) ?_
              refine w_lo dX5_read_187 rfl rfl rfl rfl ?_
              refine w_ic dX5_read_188 zi_1 ?_
              refine w_iv dX5_read_189 rfl rfl (As := [.int 1]) rfl rfl hJ20.1.1 zs_2 (Nat.le_of_ble_eq_true rfl) ?_
              obtain ⟨P77, hp78, hb⟩ := hb
              replace hb : zHd _ := hb
              have hp78c : b_1286 (zi M11) (1 : Int32).toInt P77 := by rw [zt_1]; exact hp78
              refine ZV.imp (u_1286 1 (by have := zt_1; omega) (by have := zt_1; omega) hN hJ20.1 hp78c) ?_
              rintro _ ⟨x80, M75, rfl, h81, h82, hJ76, hq79⟩
              replace hb : zHd _ := hb x80.toInt h81 h82 (zi M75) (zi_fr hJ76.2) hq79
              have hJ84 := zJ_trans hJ20 hJ76 (zSub_cons (fun _ _ h h' hk => zIR_e (by omega) (by omega) hk) (zSub_cons (fun _ _ h h' hk => zIR_s (zIR_s (zIR_s (zIR_s (zIR_s (zIR_e (by omega) (by omega) hk)))))) zSub_nil))
              show ZW _ _ _ _ _ _ _ (192, [some (.ref 2), o30_1, some (.int u30_2), some (.int v30_3), o30_4], [.int x80], M75)
              refine w_lo (ml' := [some (.ref 2), o30_1, some (.int u30_2), some (.int v30_3), some (.int x80)]) dX5_read_192 rfl rfl rfl rfl ?_
              refine w_lo dX5_read_194 rfl rfl rfl rfl ?_
              refine w_ine_f dX5_read_196 (t := 201) rfl (by omega) ?_
              refine w_ic dX5_read_199 zi_0 ?_
              refine w_en dX5_read_200 rfl ?_
              exact ⟨_, _, rfl, (by have := zt_0; omega), (by have := zt_0; omega), hJ84, hb⟩
            replace hb : zHd _ := hb.2 h74
            rcases Int.decEq x16.toInt (10 : Int) with h85 | h85
            rotate_left
            · skip
              replace hb : zHd _ := hb.1 h85
              refine w_ts dX5_read_74 (t := 187) (j := 10) h85 (by decide) ?_
              refine w_lo dX5_read_187 rfl rfl rfl rfl ?_
              refine w_ic dX5_read_188 zi_1 ?_
              refine w_iv dX5_read_189 rfl rfl (As := [.int 1]) rfl rfl hJ20.1.1 zs_2 (Nat.le_of_ble_eq_true rfl) ?_
              obtain ⟨P88, hp89, hb⟩ := hb
              replace hb : zHd _ := hb
              have hp89c : b_1286 (zi M11) (1 : Int32).toInt P88 := by rw [zt_1]; exact hp89
              refine ZV.imp (u_1286 1 (by have := zt_1; omega) (by have := zt_1; omega) hN hJ20.1 hp89c) ?_
              rintro _ ⟨x91, M86, rfl, h92, h93, hJ87, hq90⟩
              replace hb : zHd _ := hb x91.toInt h92 h93 (zi M86) (zi_fr hJ87.2) hq90
              have hJ95 := zJ_trans hJ20 hJ87 (zSub_cons (fun _ _ h h' hk => zIR_e (by omega) (by omega) hk) (zSub_cons (fun _ _ h h' hk => zIR_s (zIR_s (zIR_s (zIR_s (zIR_s (zIR_e (by omega) (by omega) hk)))))) zSub_nil))
              show ZW _ _ _ _ _ _ _ (192, [some (.ref 2), o30_1, some (.int u30_2), some (.int v30_3), o30_4], [.int x91], M86)
              refine w_lo (ml' := [some (.ref 2), o30_1, some (.int u30_2), some (.int v30_3), some (.int x91)]) dX5_read_192 rfl rfl rfl rfl ?_
              refine w_lo dX5_read_194 rfl rfl rfl rfl ?_
              refine w_ine_f dX5_read_196 (t := 201) rfl (by omega) ?_
              refine w_ic dX5_read_199 zi_0 ?_
              refine w_en dX5_read_200 rfl ?_
              exact ⟨_, _, rfl, (by have := zt_0; omega), (by have := zt_0; omega), hJ95, hb⟩
            replace hb : zHd _ := hb.2 h85
            rcases Int.decEq x16.toInt (11 : Int) with h96 | h96
            rotate_left
            · skip
              replace hb : zHd _ := hb.1 h96
              refine w_ts dX5_read_74 (t := 187) (j := 11) h96 (by decide) ?_
              refine w_lo dX5_read_187 rfl rfl rfl rfl ?_
              refine w_ic dX5_read_188 zi_1 ?_
              refine w_iv dX5_read_189 rfl rfl (As := [.int 1]) rfl rfl hJ20.1.1 zs_2 (Nat.le_of_ble_eq_true rfl) ?_
              obtain ⟨P99, hp100, hb⟩ := hb
              replace hb : zHd _ := hb
              have hp100c : b_1286 (zi M11) (1 : Int32).toInt P99 := by rw [zt_1]; exact hp100
              refine ZV.imp (u_1286 1 (by have := zt_1; omega) (by have := zt_1; omega) hN hJ20.1 hp100c) ?_
              rintro _ ⟨x102, M97, rfl, h103, h104, hJ98, hq101⟩
              replace hb : zHd _ := hb x102.toInt h103 h104 (zi M97) (zi_fr hJ98.2) hq101
              have hJ106 := zJ_trans hJ20 hJ98 (zSub_cons (fun _ _ h h' hk => zIR_e (by omega) (by omega) hk) (zSub_cons (fun _ _ h h' hk => zIR_s (zIR_s (zIR_s (zIR_s (zIR_s (zIR_e (by omega) (by omega) hk)))))) zSub_nil))
              show ZW _ _ _ _ _ _ _ (192, [some (.ref 2), o30_1, some (.int u30_2), some (.int v30_3), o30_4], [.int x102], M97)
              refine w_lo (ml' := [some (.ref 2), o30_1, some (.int u30_2), some (.int v30_3), some (.int x102)]) dX5_read_192 rfl rfl rfl rfl ?_
              refine w_lo dX5_read_194 rfl rfl rfl rfl ?_
              refine w_ine_f dX5_read_196 (t := 201) rfl (by omega) ?_
              refine w_ic dX5_read_199 zi_0 ?_
              refine w_en dX5_read_200 rfl ?_
              exact ⟨_, _, rfl, (by have := zt_0; omega), (by have := zt_0; omega), hJ106, hb⟩
            replace hb : zHd _ := hb.2 h96
            rcases Int.decEq x16.toInt (12 : Int) with h107 | h107
            rotate_left
            · skip
              replace hb : zHd _ := hb.1 h107
              refine w_ts dX5_read_74 (t := 149) (j := 12) h107 (by decide) ?_
              refine w_lo dX5_read_149 rfl rfl rfl rfl ?_
              refine w_iv dX5_read_150 rfl rfl (As := []) rfl rfl hJ20.1.1 zs_2 (Nat.le_of_ble_eq_true rfl) ?_
              obtain ⟨P110, hp111, hb⟩ := hb
              replace hb : zHd _ := hb
              refine ZV.imp (u_1294 hN hJ20.1 hp111) ?_
              rintro _ ⟨x113, M108, rfl, h114, h115, hJ109, hq112⟩
              replace hb : zHd _ := hb x113.toInt h114 h115 (zi M108) (zi_fr hJ109.2) hq112
              have hJ117 := zJ_trans hJ20 hJ109 (zSub_cons (fun _ _ h h' hk => zIR_e (by omega) (by omega) hk) (zSub_cons (fun _ _ h h' hk => zIR_s (zIR_s (zIR_s (zIR_s (zIR_s (zIR_e (by omega) (by omega) hk)))))) (zSub_cons (fun _ _ h h' hk => zIR_s (zIR_s (zIR_s (zIR_s (zIR_s (zIR_s (zIR_s (zIR_s (zIR_s (zIR_s (zIR_e (by omega) (by omega) hk))))))))))) (zSub_cons (fun _ _ h h' hk => zIR_s (zIR_s (zIR_s (zIR_s (zIR_s (zIR_s (zIR_s (zIR_s (zIR_s (zIR_s (zIR_s (zIR_s (zIR_a (by omega) (by omega)))))))))))))) (zSub_cons (fun _ _ h h' hk => zIR_s (zIR_s (zIR_s (zIR_s (zIR_s (zIR_s (zIR_s (zIR_s (zIR_s (zIR_s (zIR_s (zIR_s (zIR_s (zIR_s (zIR_a (by omega) (by omega)))))))))))))))) (zSub_cons (fun _ _ h h' hk => zIR_s (zIR_s (zIR_s (zIR_s (zIR_s (zIR_s (zIR_s (zIR_s (zIR_s (zIR_s (zIR_s (zIR_s (zIR_s (zIR_s (zIR_s (zIR_s (zIR_s (zIR_s (zIR_s (zIR_e (by omega) (by omega) hk)))))))))))))))))))) zSub_nil))))))
              show ZW _ _ _ _ _ _ _ (153, [some (.ref 2), o30_1, some (.int u30_2), some (.int v30_3), o30_4], [.int x113], M108)
              refine w_lo (ml' := [some (.ref 2), o30_1, some (.int u30_2), some (.int v30_3), some (.int x113)]) dX5_read_153 rfl rfl rfl rfl ?_
              refine w_gt dX5_read_155 (t := 194) rfl ?_
              refine w_lo dX5_read_194 rfl rfl rfl rfl ?_
              rcases Int.decEq x113.toInt (0 : Int) with h118 | h118
              · skip
                replace hb : zHd _ := hb.1 h118
                refine w_ine_t dX5_read_196 (t := 201) rfl (by omega) ?_
                refine w_lo dX5_read_201 rfl rfl rfl rfl ?_
                refine w_bi dX5_read_202 (c := 59) (by decide) ?_
                refine w_iv dX5_read_204 rfl rfl (As := [.int 59]) rfl rfl hJ117.1.1 zs_2 (Nat.le_of_ble_eq_true rfl) ?_
                obtain ⟨P121, hp122, hb⟩ := hb
                replace hb : zHd _ := hb
                have hp122c : b_1299 (zi M108) (59 : Int32).toInt P121 := by rw [zt_59]; exact hp122
                refine ZV.imp (u_1299 59 (by have := zt_59; omega) (by have := zt_59; omega) hN hJ117.1 hp122c) ?_
                rintro _ ⟨x124, M119, rfl, h125, h126, hJ120, hq123⟩
                replace hb : zHd _ := hb x124.toInt h125 h126 (zi M119) (zi_fr hJ120.2) hq123
                have hJ128 := zJ_trans hJ117 hJ120 zSub_nil
                show ZW _ _ _ _ _ _ _ (207, [some (.ref 2), o30_1, some (.int u30_2), some (.int v30_3), some (.int x113)], [.int x124], M119)
                rcases Int.decEq x124.toInt (0 : Int) with h129 | h129
                · skip
                  replace hb : zHd _ := hb.1 h129
                  refine w_ine_t dX5_read_207 (t := 216) rfl (by omega) ?_
                  refine w_lo dX5_read_216 rfl rfl rfl rfl ?_
                  refine w_iv dX5_read_217 rfl rfl (As := []) rfl rfl hJ128.1.1 zs_2 (Nat.le_of_ble_eq_true rfl) ?_
                  obtain ⟨P132, hp133, hb⟩ := hb
                  replace hb : zHd _ := hb
                  refine ZV.imp (u_1289 hN hJ128.1 hp133) ?_
                  rintro _ ⟨M130, rfl, hJ131, hq134⟩
                  replace hb : zHd _ := hb  (zi M130) (zi_fr hJ131.2) hq134
                  have hJ136 := zJ_trans hJ128 hJ131 (zSub_cons (fun _ _ h h' hk => zIR_s (zIR_s (zIR_s (zIR_s (zIR_s (zIR_s (zIR_s (zIR_s (zIR_s (zIR_s (zIR_s (zIR_s (zIR_s (zIR_s (zIR_s (zIR_s (zIR_s (zIR_s (zIR_s (zIR_e (by omega) (by omega) hk)))))))))))))))))))) zSub_nil)
                  show ZW _ _ _ _ _ _ _ (220, [some (.ref 2), o30_1, some (.int u30_2), some (.int v30_3), some (.int x113)], [], M130)
                  refine w_inc (kk := 3) dX5_read_220 rfl (m := 1) (by decide) (by omega) ?_
                  intro x137 h138
                  refine ⟨_, rfl, ?_⟩
                  replace hb : zHd _ := hb x137.toInt h138
                  show ZW _ _ _ _ _ _ _ (223, [some (.ref 2), o30_1, some (.int u30_2), some (.int x137), some (.int x113)], [], M130)
                  refine w_gt dX5_read_223 (t := 30) rfl ?_
                  obtain ⟨m, hm, hI⟩ := hb
                  exact (ih m hm) M130 o30_1 u30_2 x137 (some (.int x113)) hJ136 (by omega) (by omega) hI
                · skip
                  replace hb : zHd _ := hb.2 h129
                  refine w_ine_f dX5_read_207 (t := 216) rfl (by omega) ?_
                  refine w_lo dX5_read_210 rfl rfl rfl rfl ?_
                  refine w_ic dX5_read_211 zi_1 ?_
                  refine w_iv dX5_read_212 rfl rfl (As := [.int 1]) rfl rfl hJ128.1.1 zs_2 (Nat.le_of_ble_eq_true rfl) ?_
                  obtain ⟨P141, hp142, hb⟩ := hb
                  replace hb : zHd _ := hb
                  have hp142c : b_1286 (zi M119) (1 : Int32).toInt P141 := by rw [zt_1]; exact hp142
                  refine ZV.imp (u_1286 1 (by have := zt_1; omega) (by have := zt_1; omega) hN hJ128.1 hp142c) ?_
                  rintro _ ⟨x144, M139, rfl, h145, h146, hJ140, hq143⟩
                  replace hb : zHd _ := hb x144.toInt h145 h146 (zi M139) (zi_fr hJ140.2) hq143
                  have hJ148 := zJ_trans hJ128 hJ140 (zSub_cons (fun _ _ h h' hk => zIR_e (by omega) (by omega) hk) (zSub_cons (fun _ _ h h' hk => zIR_s (zIR_s (zIR_s (zIR_s (zIR_s (zIR_e (by omega) (by omega) hk)))))) zSub_nil))
                  show ZW _ _ _ _ _ _ _ (215, [some (.ref 2), o30_1, some (.int u30_2), some (.int v30_3), some (.int x113)], [.int x144], M139)
                  refine w_eni dX5_read_215 rfl (znb (by omega) (by omega)) ?_
                  exact ⟨_, _, rfl, (by omega), (by omega), hJ148, hb⟩
              · skip
                replace hb : zHd _ := hb.2 h118
                refine w_ine_f dX5_read_196 (t := 201) rfl (by omega) ?_
                refine w_ic dX5_read_199 zi_0 ?_
                refine w_en dX5_read_200 rfl ?_
                exact ⟨_, _, rfl, (by have := zt_0; omega), (by have := zt_0; omega), hJ117, hb⟩
            replace hb : zHd _ := hb.2 h107
            rcases Int.decEq x16.toInt (13 : Int) with h149 | h149
            rotate_left
            · skip
              replace hb : zHd _ := hb.1 h149
              refine w_ts dX5_read_74 (t := 187) (j := 13) h149 (by decide) ?_
              refine w_lo dX5_read_187 rfl rfl rfl rfl ?_
              refine w_ic dX5_read_188 zi_1 ?_
              refine w_iv dX5_read_189 rfl rfl (As := [.int 1]) rfl rfl hJ20.1.1 zs_2 (Nat.le_of_ble_eq_true rfl) ?_
              obtain ⟨P152, hp153, hb⟩ := hb
              replace hb : zHd _ := hb
              have hp153c : b_1286 (zi M11) (1 : Int32).toInt P152 := by rw [zt_1]; exact hp153
              refine ZV.imp (u_1286 1 (by have := zt_1; omega) (by have := zt_1; omega) hN hJ20.1 hp153c) ?_
              rintro _ ⟨x155, M150, rfl, h156, h157, hJ151, hq154⟩
              replace hb : zHd _ := hb x155.toInt h156 h157 (zi M150) (zi_fr hJ151.2) hq154
              have hJ159 := zJ_trans hJ20 hJ151 (zSub_cons (fun _ _ h h' hk => zIR_e (by omega) (by omega) hk) (zSub_cons (fun _ _ h h' hk => zIR_s (zIR_s (zIR_s (zIR_s (zIR_s (zIR_e (by omega) (by omega) hk)))))) zSub_nil))
              show ZW _ _ _ _ _ _ _ (192, [some (.ref 2), o30_1, some (.int u30_2), some (.int v30_3), o30_4], [.int x155], M150)
              refine w_lo (ml' := [some (.ref 2), o30_1, some (.int u30_2), some (.int v30_3), some (.int x155)]) dX5_read_192 rfl rfl rfl rfl ?_
              refine w_lo dX5_read_194 rfl rfl rfl rfl ?_
              refine w_ine_f dX5_read_196 (t := 201) rfl (by omega) ?_
              refine w_ic dX5_read_199 zi_0 ?_
              refine w_en dX5_read_200 rfl ?_
              exact ⟨_, _, rfl, (by have := zt_0; omega), (by have := zt_0; omega), hJ159, hb⟩
            replace hb : zHd _ := hb.2 h149
            rcases Int.decEq x16.toInt (14 : Int) with h160 | h160
            rotate_left
            · skip
              replace hb : zHd _ := hb.1 h160
              refine w_ts dX5_read_74 (t := 158) (j := 14) h160 (by decide) ?_
              refine w_lo dX5_read_158 rfl rfl rfl rfl ?_
              refine w_iv dX5_read_159 rfl rfl (As := []) rfl rfl hJ20.1.1 zs_2 (Nat.le_of_ble_eq_true rfl) ?_
              obtain ⟨P163, hp164, hb⟩ := hb
              replace hb : zHd _ := hb
              refine ZV.imp (u_1295 hN hJ20.1 hp164) ?_
              rintro _ ⟨x166, M161, rfl, h167, h168, hJ162, hq165⟩
              replace hb : zHd _ := hb x166.toInt h167 h168 (zi M161) (zi_fr hJ162.2) hq165
              have hJ170 := zJ_trans hJ20 hJ162 (zSub_cons (fun _ _ h h' hk => zIR_e (by omega) (by omega) hk) (zSub_cons (fun _ _ h h' hk => zIR_s (zIR_s (zIR_s (zIR_s (zIR_s (zIR_e (by omega) (by omega) hk)))))) (zSub_cons (fun _ _ h h' hk => zIR_s (zIR_s (zIR_s (zIR_s (zIR_s (zIR_s (zIR_s (zIR_s (zIR_s (zIR_s (zIR_e (by omega) (by omega) hk))))))))))) (zSub_cons (fun _ _ h h' hk => zIR_s (zIR_s (zIR_s (zIR_s (zIR_s (zIR_s (zIR_s (zIR_s (zIR_s (zIR_s (zIR_s (zIR_s (zIR_a (by omega) (by omega)))))))))))))) (zSub_cons (fun _ _ h h' hk => zIR_s (zIR_s (zIR_s (zIR_s (zIR_s (zIR_s (zIR_s (zIR_s (zIR_s (zIR_s (zIR_s (zIR_s (zIR_s (zIR_s (zIR_a (by omega) (by omega)))))))))))))))) (zSub_cons (fun _ _ h h' hk => zIR_s (zIR_s (zIR_s (zIR_s (zIR_s (zIR_s (zIR_s (zIR_s (zIR_s (zIR_s (zIR_s (zIR_s (zIR_s (zIR_s (zIR_s (zIR_s (zIR_e (by omega) (by omega) hk))))))))))))))))) (zSub_cons (fun _ _ h h' hk => zIR_s (zIR_s (zIR_s (zIR_s (zIR_s (zIR_s (zIR_s (zIR_s (zIR_s (zIR_s (zIR_s (zIR_s (zIR_s (zIR_s (zIR_s (zIR_s (zIR_s (zIR_e (by omega) (by omega) hk)))))))))))))))))) (zSub_cons (fun _ _ h h' hk => zIR_s (zIR_s (zIR_s (zIR_s (zIR_s (zIR_s (zIR_s (zIR_s (zIR_s (zIR_s (zIR_s (zIR_s (zIR_s (zIR_s (zIR_s (zIR_s (zIR_s (zIR_s (zIR_s (zIR_e (by omega) (by omega) hk)))))))))))))))))))) (zSub_cons (fun _ _ h h' hk => zIR_s (zIR_s (zIR_s (zIR_s (zIR_s (zIR_s (zIR_s (zIR_s (zIR_s (zIR_s (zIR_s (zIR_s (zIR_s (zIR_s (zIR_s (zIR_s (zIR_s (zIR_s (zIR_s (zIR_s (zIR_e (by omega) (by omega) hk))))))))))))))))))))) zSub_nil)))))))))
              show ZW _ _ _ _ _ _ _ (162, [some (.ref 2), o30_1, some (.int u30_2), some (.int v30_3), o30_4], [.int x166], M161)
              refine w_lo (ml' := [some (.ref 2), o30_1, some (.int u30_2), some (.int v30_3), some (.int x166)]) dX5_read_162 rfl rfl rfl rfl ?_
              refine w_gt dX5_read_164 (t := 194) rfl ?_
              refine w_lo dX5_read_194 rfl rfl rfl rfl ?_
              rcases Int.decEq x166.toInt (0 : Int) with h171 | h171
              · skip
                replace hb : zHd _ := hb.1 h171
                refine w_ine_t dX5_read_196 (t := 201) rfl (by omega) ?_
                refine w_lo dX5_read_201 rfl rfl rfl rfl ?_
                refine w_bi dX5_read_202 (c := 59) (by decide) ?_
                refine w_iv dX5_read_204 rfl rfl (As := [.int 59]) rfl rfl hJ170.1.1 zs_2 (Nat.le_of_ble_eq_true rfl) ?_
                obtain ⟨P174, hp175, hb⟩ := hb
                replace hb : zHd _ := hb
                have hp175c : b_1299 (zi M161) (59 : Int32).toInt P174 := by rw [zt_59]; exact hp175
                refine ZV.imp (u_1299 59 (by have := zt_59; omega) (by have := zt_59; omega) hN hJ170.1 hp175c) ?_
                rintro _ ⟨x177, M172, rfl, h178, h179, hJ173, hq176⟩
                replace hb : zHd _ := hb x177.toInt h178 h179 (zi M172) (zi_fr hJ173.2) hq176
                have hJ181 := zJ_trans hJ170 hJ173 zSub_nil
                show ZW _ _ _ _ _ _ _ (207, [some (.ref 2), o30_1, some (.int u30_2), some (.int v30_3), some (.int x166)], [.int x177], M172)
                rcases Int.decEq x177.toInt (0 : Int) with h182 | h182
                · skip
                  replace hb : zHd _ := hb.1 h182
                  refine w_ine_t dX5_read_207 (t := 216) rfl (by omega) ?_
                  refine w_lo dX5_read_216 rfl rfl rfl rfl ?_
                  refine w_iv dX5_read_217 rfl rfl (As := []) rfl rfl hJ181.1.1 zs_2 (Nat.le_of_ble_eq_true rfl) ?_
                  obtain ⟨P185, hp186, hb⟩ := hb
                  replace hb : zHd _ := hb
                  refine ZV.imp (u_1289 hN hJ181.1 hp186) ?_
                  rintro _ ⟨M183, rfl, hJ184, hq187⟩
                  replace hb : zHd _ := hb  (zi M183) (zi_fr hJ184.2) hq187
                  have hJ189 := zJ_trans hJ181 hJ184 (zSub_cons (fun _ _ h h' hk => zIR_s (zIR_s (zIR_s (zIR_s (zIR_s (zIR_s (zIR_s (zIR_s (zIR_s (zIR_s (zIR_s (zIR_s (zIR_s (zIR_s (zIR_s (zIR_s (zIR_s (zIR_s (zIR_s (zIR_e (by omega) (by omega) hk)))))))))))))))))))) zSub_nil)
                  show ZW _ _ _ _ _ _ _ (220, [some (.ref 2), o30_1, some (.int u30_2), some (.int v30_3), some (.int x166)], [], M183)
                  refine w_inc (kk := 3) dX5_read_220 rfl (m := 1) (by decide) (by omega) ?_
                  intro x190 h191
                  refine ⟨_, rfl, ?_⟩
                  replace hb : zHd _ := hb x190.toInt h191
                  show ZW _ _ _ _ _ _ _ (223, [some (.ref 2), o30_1, some (.int u30_2), some (.int x190), some (.int x166)], [], M183)
                  refine w_gt dX5_read_223 (t := 30) rfl ?_
                  obtain ⟨m, hm, hI⟩ := hb
                  exact (ih m hm) M183 o30_1 u30_2 x190 (some (.int x166)) hJ189 (by omega) (by omega) hI
                · skip
                  replace hb : zHd _ := hb.2 h182
                  refine w_ine_f dX5_read_207 (t := 216) rfl (by omega) ?_
                  refine w_lo dX5_read_210 rfl rfl rfl rfl ?_
                  refine w_ic dX5_read_211 zi_1 ?_
                  refine w_iv dX5_read_212 rfl rfl (As := [.int 1]) rfl rfl hJ181.1.1 zs_2 (Nat.le_of_ble_eq_true rfl) ?_
                  obtain ⟨P194, hp195, hb⟩ := hb
                  replace hb : zHd _ := hb
                  have hp195c : b_1286 (zi M172) (1 : Int32).toInt P194 := by rw [zt_1]; exact hp195
                  refine ZV.imp (u_1286 1 (by have := zt_1; omega) (by have := zt_1; omega) hN hJ181.1 hp195c) ?_
                  rintro _ ⟨x197, M192, rfl, h198, h199, hJ193, hq196⟩
                  replace hb : zHd _ := hb x197.toInt h198 h199 (zi M192) (zi_fr hJ193.2) hq196
                  have hJ201 := zJ_trans hJ181 hJ193 (zSub_cons (fun _ _ h h' hk => zIR_e (by omega) (by omega) hk) (zSub_cons (fun _ _ h h' hk => zIR_s (zIR_s (zIR_s (zIR_s (zIR_s (zIR_e (by omega) (by omega) hk)))))) zSub_nil))
                  show ZW _ _ _ _ _ _ _ (215, [some (.ref 2), o30_1, some (.int u30_2), some (.int v30_3), some (.int x166)], [.int x197], M192)
                  refine w_eni dX5_read_215 rfl (znb (by omega) (by omega)) ?_
                  exact ⟨_, _, rfl, (by omega), (by omega), hJ201, hb⟩
              · skip
                replace hb : zHd _ := hb.2 h171
                refine w_ine_f dX5_read_196 (t := 201) rfl (by omega) ?_
                refine w_ic dX5_read_199 zi_0 ?_
                refine w_en dX5_read_200 rfl ?_
                exact ⟨_, _, rfl, (by have := zt_0; omega), (by have := zt_0; omega), hJ170, hb⟩
            replace hb : zHd _ := hb.2 h160
            rcases Int.decEq x16.toInt (15 : Int) with h202 | h202
            rotate_left
            · skip
              replace hb : zHd _ := hb.1 h202
              refine w_ts dX5_read_74 (t := 187) (j := 15) h202 (by decide) ?_
              refine w_lo dX5_read_187 rfl rfl rfl rfl ?_
              refine w_ic dX5_read_188 zi_1 ?_
              refine w_iv dX5_read_189 rfl rfl (As := [.int 1]) rfl rfl hJ20.1.1 zs_2 (Nat.le_of_ble_eq_true rfl) ?_
              obtain ⟨P205, hp206, hb⟩ := hb
              replace hb : zHd _ := hb
              have hp206c : b_1286 (zi M11) (1 : Int32).toInt P205 := by rw [zt_1]; exact hp206
              refine ZV.imp (u_1286 1 (by have := zt_1; omega) (by have := zt_1; omega) hN hJ20.1 hp206c) ?_
              rintro _ ⟨x208, M203, rfl, h209, h210, hJ204, hq207⟩
              replace hb : zHd _ := hb x208.toInt h209 h210 (zi M203) (zi_fr hJ204.2) hq207
              have hJ212 := zJ_trans hJ20 hJ204 (zSub_cons (fun _ _ h h' hk => zIR_e (by omega) (by omega) hk) (zSub_cons (fun _ _ h h' hk => zIR_s (zIR_s (zIR_s (zIR_s (zIR_s (zIR_e (by omega) (by omega) hk)))))) zSub_nil))
              show ZW _ _ _ _ _ _ _ (192, [some (.ref 2), o30_1, some (.int u30_2), some (.int v30_3), o30_4], [.int x208], M203)
              refine w_lo (ml' := [some (.ref 2), o30_1, some (.int u30_2), some (.int v30_3), some (.int x208)]) dX5_read_192 rfl rfl rfl rfl ?_
              refine w_lo dX5_read_194 rfl rfl rfl rfl ?_
              refine w_ine_f dX5_read_196 (t := 201) rfl (by omega) ?_
              refine w_ic dX5_read_199 zi_0 ?_
              refine w_en dX5_read_200 rfl ?_
              exact ⟨_, _, rfl, (by have := zt_0; omega), (by have := zt_0; omega), hJ212, hb⟩
            replace hb : zHd _ := hb.2 h202
            rcases Int.decEq x16.toInt (16 : Int) with h213 | h213
            rotate_left
            · skip
              replace hb : zHd _ := hb.1 h213
              refine w_ts dX5_read_74 (t := 187) (j := 16) h213 (by decide) ?_
              refine w_lo dX5_read_187 rfl rfl rfl rfl ?_
              refine w_ic dX5_read_188 zi_1 ?_
              refine w_iv dX5_read_189 rfl rfl (As := [.int 1]) rfl rfl hJ20.1.1 zs_2 (Nat.le_of_ble_eq_true rfl) ?_
              obtain ⟨P216, hp217, hb⟩ := hb
              replace hb : zHd _ := hb
              have hp217c : b_1286 (zi M11) (1 : Int32).toInt P216 := by rw [zt_1]; exact hp217
              refine ZV.imp (u_1286 1 (by have := zt_1; omega) (by have := zt_1; omega) hN hJ20.1 hp217c) ?_
              rintro _ ⟨x219, M214, rfl, h220, h221, hJ215, hq218⟩
              replace hb : zHd _ := hb x219.toInt h220 h221 (zi M214) (zi_fr hJ215.2) hq218
              have hJ223 := zJ_trans hJ20 hJ215 (zSub_cons (fun _ _ h h' hk => zIR_e (by omega) (by omega) hk) (zSub_cons (fun _ _ h h' hk => zIR_s (zIR_s (zIR_s (zIR_s (zIR_s (zIR_e (by omega) (by omega) hk)))))) zSub_nil))
              show ZW _ _ _ _ _ _ _ (192, [some (.ref 2), o30_1, some (.int u30_2), some (.int v30_3), o30_4], [.int x219], M214)
              refine w_lo (ml' := [some (.ref 2), o30_1, some (.int u30_2), some (.int v30_3), some (.int x219)]) dX5_read_192 rfl rfl rfl rfl ?_
              refine w_lo dX5_read_194 rfl rfl rfl rfl ?_
              refine w_ine_f dX5_read_196 (t := 201) rfl (by omega) ?_
              refine w_ic dX5_read_199 zi_0 ?_
              refine w_en dX5_read_200 rfl ?_
              exact ⟨_, _, rfl, (by have := zt_0; omega), (by have := zt_0; omega), hJ223, hb⟩
            replace hb : zHd _ := hb.2 h213
            rcases Int.decEq x16.toInt (17 : Int) with h224 | h224
            rotate_left
            · skip
              replace hb : zHd _ := hb.1 h224
              refine w_ts dX5_read_74 (t := 187) (j := 17) h224 (by decide) ?_
              refine w_lo dX5_read_187 rfl rfl rfl rfl ?_
              refine w_ic dX5_read_188 zi_1 ?_
              refine w_iv dX5_read_189 rfl rfl (As := [.int 1]) rfl rfl hJ20.1.1 zs_2 (Nat.le_of_ble_eq_true rfl) ?_
              obtain ⟨P227, hp228, hb⟩ := hb
              replace hb : zHd _ := hb
              have hp228c : b_1286 (zi M11) (1 : Int32).toInt P227 := by rw [zt_1]; exact hp228
              refine ZV.imp (u_1286 1 (by have := zt_1; omega) (by have := zt_1; omega) hN hJ20.1 hp228c) ?_
              rintro _ ⟨x230, M225, rfl, h231, h232, hJ226, hq229⟩
              replace hb : zHd _ := hb x230.toInt h231 h232 (zi M225) (zi_fr hJ226.2) hq229
              have hJ234 := zJ_trans hJ20 hJ226 (zSub_cons (fun _ _ h h' hk => zIR_e (by omega) (by omega) hk) (zSub_cons (fun _ _ h h' hk => zIR_s (zIR_s (zIR_s (zIR_s (zIR_s (zIR_e (by omega) (by omega) hk)))))) zSub_nil))
              show ZW _ _ _ _ _ _ _ (192, [some (.ref 2), o30_1, some (.int u30_2), some (.int v30_3), o30_4], [.int x230], M225)
              refine w_lo (ml' := [some (.ref 2), o30_1, some (.int u30_2), some (.int v30_3), some (.int x230)]) dX5_read_192 rfl rfl rfl rfl ?_
              refine w_lo dX5_read_194 rfl rfl rfl rfl ?_
              refine w_ine_f dX5_read_196 (t := 201) rfl (by omega) ?_
              refine w_ic dX5_read_199 zi_0 ?_
              refine w_en dX5_read_200 rfl ?_
              exact ⟨_, _, rfl, (by have := zt_0; omega), (by have := zt_0; omega), hJ234, hb⟩
            replace hb : zHd _ := hb.2 h224
            rcases Int.decEq x16.toInt (18 : Int) with h235 | h235
            rotate_left
            · skip
              replace hb : zHd _ := hb.1 h235
              refine w_ts dX5_read_74 (t := 167) (j := 18) h235 (by decide) ?_
              refine w_lo dX5_read_167 rfl rfl rfl rfl ?_
              refine w_ic dX5_read_168 zi_0 ?_
              refine w_iv dX5_read_169 rfl rfl (As := [.int 0]) rfl rfl hJ20.1.1 zs_2 (Nat.le_of_ble_eq_true rfl) ?_
              obtain ⟨P238, hp239, hb⟩ := hb
              replace hb : zHd _ := hb
              have hp239c : b_1296 (zi M11) (0 : Int32).toInt P238 := by rw [zt_0]; exact hp239
              refine ZV.imp (u_1296 0 (by have := zt_0; omega) (by have := zt_0; omega) hN hJ20.1 hp239c) ?_
              rintro _ ⟨x241, M236, rfl, h242, h243, hJ237, hq240⟩
              replace hb : zHd _ := hb x241.toInt h242 h243 (zi M236) (zi_fr hJ237.2) hq240
              have hJ245 := zJ_trans hJ20 hJ237 (zSub_cons (fun _ _ h h' hk => zIR_e (by omega) (by omega) hk) (zSub_cons (fun _ _ h h' hk => zIR_s (zIR_s (zIR_e (by omega) (by omega) hk))) (zSub_cons (fun _ _ h h' hk => zIR_s (zIR_s (zIR_s (zIR_s (zIR_e (by omega) (by omega) hk))))) (zSub_cons (fun _ _ h h' hk => zIR_s (zIR_s (zIR_s (zIR_s (zIR_s (zIR_e (by omega) (by omega) hk)))))) (zSub_cons (fun _ _ h h' hk => zIR_s (zIR_s (zIR_s (zIR_s (zIR_s (zIR_s (zIR_s (zIR_e (by omega) (by omega) hk)))))))) (zSub_cons (fun _ _ h h' hk => zIR_s (zIR_s (zIR_s (zIR_s (zIR_s (zIR_s (zIR_s (zIR_s (zIR_s (zIR_e (by omega) (by omega) hk)))))))))) (zSub_cons (fun _ _ h h' hk => zIR_s (zIR_s (zIR_s (zIR_s (zIR_s (zIR_s (zIR_s (zIR_s (zIR_s (zIR_s (zIR_s (zIR_s (zIR_s (zIR_a (by omega) (by omega))))))))))))))) (zSub_cons (fun _ _ h h' hk => zIR_s (zIR_s (zIR_s (zIR_s (zIR_s (zIR_s (zIR_s (zIR_s (zIR_s (zIR_s (zIR_s (zIR_s (zIR_s (zIR_s (zIR_s (zIR_a (by omega) (by omega))))))))))))))))) (zSub_cons (fun _ _ h h' hk => zIR_s (zIR_s (zIR_s (zIR_s (zIR_s (zIR_s (zIR_s (zIR_s (zIR_s (zIR_s (zIR_s (zIR_s (zIR_s (zIR_s (zIR_s (zIR_s (zIR_s (zIR_s (zIR_s (zIR_e (by omega) (by omega) hk)))))))))))))))))))) zSub_nil)))))))))
              show ZW _ _ _ _ _ _ _ (172, [some (.ref 2), o30_1, some (.int u30_2), some (.int v30_3), o30_4], [.int x241], M236)
              refine w_lo (ml' := [some (.ref 2), o30_1, some (.int u30_2), some (.int v30_3), some (.int x241)]) dX5_read_172 rfl rfl rfl rfl ?_
              refine w_gt dX5_read_174 (t := 194) rfl ?_
              refine w_lo dX5_read_194 rfl rfl rfl rfl ?_
              rcases Int.decEq x241.toInt (0 : Int) with h246 | h246
              · skip
                replace hb : zHd _ := hb.1 h246
                refine w_ine_t dX5_read_196 (t := 201) rfl (by omega) ?_
                refine w_lo dX5_read_201 rfl rfl rfl rfl ?_
                refine w_bi dX5_read_202 (c := 59) (by decide) ?_
                refine w_iv dX5_read_204 rfl rfl (As := [.int 59]) rfl rfl hJ245.1.1 zs_2 (Nat.le_of_ble_eq_true rfl) ?_
                obtain ⟨P249, hp250, hb⟩ := hb
                replace hb : zHd _ := hb
                have hp250c : b_1299 (zi M236) (59 : Int32).toInt P249 := by rw [zt_59]; exact hp250
                refine ZV.imp (u_1299 59 (by have := zt_59; omega) (by have := zt_59; omega) hN hJ245.1 hp250c) ?_
                rintro _ ⟨x252, M247, rfl, h253, h254, hJ248, hq251⟩
                replace hb : zHd _ := hb x252.toInt h253 h254 (zi M247) (zi_fr hJ248.2) hq251
                have hJ256 := zJ_trans hJ245 hJ248 zSub_nil
                show ZW _ _ _ _ _ _ _ (207, [some (.ref 2), o30_1, some (.int u30_2), some (.int v30_3), some (.int x241)], [.int x252], M247)
                rcases Int.decEq x252.toInt (0 : Int) with h257 | h257
                · skip
                  replace hb : zHd _ := hb.1 h257
                  refine w_ine_t dX5_read_207 (t := 216) rfl (by omega) ?_
                  refine w_lo dX5_read_216 rfl rfl rfl rfl ?_
                  refine w_iv dX5_read_217 rfl rfl (As := []) rfl rfl hJ256.1.1 zs_2 (Nat.le_of_ble_eq_true rfl) ?_
                  obtain ⟨P260, hp261, hb⟩ := hb
                  replace hb : zHd _ := hb
                  refine ZV.imp (u_1289 hN hJ256.1 hp261) ?_
                  rintro _ ⟨M258, rfl, hJ259, hq262⟩
                  replace hb : zHd _ := hb  (zi M258) (zi_fr hJ259.2) hq262
                  have hJ264 := zJ_trans hJ256 hJ259 (zSub_cons (fun _ _ h h' hk => zIR_s (zIR_s (zIR_s (zIR_s (zIR_s (zIR_s (zIR_s (zIR_s (zIR_s (zIR_s (zIR_s (zIR_s (zIR_s (zIR_s (zIR_s (zIR_s (zIR_s (zIR_s (zIR_s (zIR_e (by omega) (by omega) hk)))))))))))))))))))) zSub_nil)
                  show ZW _ _ _ _ _ _ _ (220, [some (.ref 2), o30_1, some (.int u30_2), some (.int v30_3), some (.int x241)], [], M258)
                  refine w_inc (kk := 3) dX5_read_220 rfl (m := 1) (by decide) (by omega) ?_
                  intro x265 h266
                  refine ⟨_, rfl, ?_⟩
                  replace hb : zHd _ := hb x265.toInt h266
                  show ZW _ _ _ _ _ _ _ (223, [some (.ref 2), o30_1, some (.int u30_2), some (.int x265), some (.int x241)], [], M258)
                  refine w_gt dX5_read_223 (t := 30) rfl ?_
                  obtain ⟨m, hm, hI⟩ := hb
                  exact (ih m hm) M258 o30_1 u30_2 x265 (some (.int x241)) hJ264 (by omega) (by omega) hI
                · skip
                  replace hb : zHd _ := hb.2 h257
                  refine w_ine_f dX5_read_207 (t := 216) rfl (by omega) ?_
                  refine w_lo dX5_read_210 rfl rfl rfl rfl ?_
                  refine w_ic dX5_read_211 zi_1 ?_
                  refine w_iv dX5_read_212 rfl rfl (As := [.int 1]) rfl rfl hJ256.1.1 zs_2 (Nat.le_of_ble_eq_true rfl) ?_
                  obtain ⟨P269, hp270, hb⟩ := hb
                  replace hb : zHd _ := hb
                  have hp270c : b_1286 (zi M247) (1 : Int32).toInt P269 := by rw [zt_1]; exact hp270
                  refine ZV.imp (u_1286 1 (by have := zt_1; omega) (by have := zt_1; omega) hN hJ256.1 hp270c) ?_
                  rintro _ ⟨x272, M267, rfl, h273, h274, hJ268, hq271⟩
                  replace hb : zHd _ := hb x272.toInt h273 h274 (zi M267) (zi_fr hJ268.2) hq271
                  have hJ276 := zJ_trans hJ256 hJ268 (zSub_cons (fun _ _ h h' hk => zIR_e (by omega) (by omega) hk) (zSub_cons (fun _ _ h h' hk => zIR_s (zIR_s (zIR_s (zIR_s (zIR_s (zIR_e (by omega) (by omega) hk)))))) zSub_nil))
                  show ZW _ _ _ _ _ _ _ (215, [some (.ref 2), o30_1, some (.int u30_2), some (.int v30_3), some (.int x241)], [.int x272], M267)
                  refine w_eni dX5_read_215 rfl (znb (by omega) (by omega)) ?_
                  exact ⟨_, _, rfl, (by omega), (by omega), hJ276, hb⟩
              · skip
                replace hb : zHd _ := hb.2 h246
                refine w_ine_f dX5_read_196 (t := 201) rfl (by omega) ?_
                refine w_ic dX5_read_199 zi_0 ?_
                refine w_en dX5_read_200 rfl ?_
                exact ⟨_, _, rfl, (by have := zt_0; omega), (by have := zt_0; omega), hJ245, hb⟩
            replace hb : zHd _ := hb.2 h235
            rcases Int.decEq x16.toInt (19 : Int) with h277 | h277
            rotate_left
            · skip
              replace hb : zHd _ := hb.1 h277
              refine w_ts dX5_read_74 (t := 177) (j := 19) h277 (by decide) ?_
              refine w_lo dX5_read_177 rfl rfl rfl rfl ?_
              refine w_ic dX5_read_178 zi_1 ?_
              refine w_iv dX5_read_179 rfl rfl (As := [.int 1]) rfl rfl hJ20.1.1 zs_2 (Nat.le_of_ble_eq_true rfl) ?_
              obtain ⟨P280, hp281, hb⟩ := hb
              replace hb : zHd _ := hb
              have hp281c : b_1296 (zi M11) (1 : Int32).toInt P280 := by rw [zt_1]; exact hp281
              refine ZV.imp (u_1296 1 (by have := zt_1; omega) (by have := zt_1; omega) hN hJ20.1 hp281c) ?_
              rintro _ ⟨x283, M278, rfl, h284, h285, hJ279, hq282⟩
              replace hb : zHd _ := hb x283.toInt h284 h285 (zi M278) (zi_fr hJ279.2) hq282
              have hJ287 := zJ_trans hJ20 hJ279 (zSub_cons (fun _ _ h h' hk => zIR_e (by omega) (by omega) hk) (zSub_cons (fun _ _ h h' hk => zIR_s (zIR_s (zIR_e (by omega) (by omega) hk))) (zSub_cons (fun _ _ h h' hk => zIR_s (zIR_s (zIR_s (zIR_s (zIR_e (by omega) (by omega) hk))))) (zSub_cons (fun _ _ h h' hk => zIR_s (zIR_s (zIR_s (zIR_s (zIR_s (zIR_e (by omega) (by omega) hk)))))) (zSub_cons (fun _ _ h h' hk => zIR_s (zIR_s (zIR_s (zIR_s (zIR_s (zIR_s (zIR_s (zIR_e (by omega) (by omega) hk)))))))) (zSub_cons (fun _ _ h h' hk => zIR_s (zIR_s (zIR_s (zIR_s (zIR_s (zIR_s (zIR_s (zIR_s (zIR_s (zIR_e (by omega) (by omega) hk)))))))))) (zSub_cons (fun _ _ h h' hk => zIR_s (zIR_s (zIR_s (zIR_s (zIR_s (zIR_s (zIR_s (zIR_s (zIR_s (zIR_s (zIR_s (zIR_s (zIR_s (zIR_a (by omega) (by omega))))))))))))))) (zSub_cons (fun _ _ h h' hk => zIR_s (zIR_s (zIR_s (zIR_s (zIR_s (zIR_s (zIR_s (zIR_s (zIR_s (zIR_s (zIR_s (zIR_s (zIR_s (zIR_s (zIR_s (zIR_a (by omega) (by omega))))))))))))))))) (zSub_cons (fun _ _ h h' hk => zIR_s (zIR_s (zIR_s (zIR_s (zIR_s (zIR_s (zIR_s (zIR_s (zIR_s (zIR_s (zIR_s (zIR_s (zIR_s (zIR_s (zIR_s (zIR_s (zIR_s (zIR_s (zIR_s (zIR_e (by omega) (by omega) hk)))))))))))))))))))) zSub_nil)))))))))
              show ZW _ _ _ _ _ _ _ (182, [some (.ref 2), o30_1, some (.int u30_2), some (.int v30_3), o30_4], [.int x283], M278)
              refine w_lo (ml' := [some (.ref 2), o30_1, some (.int u30_2), some (.int v30_3), some (.int x283)]) dX5_read_182 rfl rfl rfl rfl ?_
              refine w_gt dX5_read_184 (t := 194) rfl ?_
              refine w_lo dX5_read_194 rfl rfl rfl rfl ?_
              rcases Int.decEq x283.toInt (0 : Int) with h288 | h288
              · skip
                replace hb : zHd _ := hb.1 h288
                refine w_ine_t dX5_read_196 (t := 201) rfl (by omega) ?_
                refine w_lo dX5_read_201 rfl rfl rfl rfl ?_
                refine w_bi dX5_read_202 (c := 59) (by decide) ?_
                refine w_iv dX5_read_204 rfl rfl (As := [.int 59]) rfl rfl hJ287.1.1 zs_2 (Nat.le_of_ble_eq_true rfl) ?_
                obtain ⟨P291, hp292, hb⟩ := hb
                replace hb : zHd _ := hb
                have hp292c : b_1299 (zi M278) (59 : Int32).toInt P291 := by rw [zt_59]; exact hp292
                refine ZV.imp (u_1299 59 (by have := zt_59; omega) (by have := zt_59; omega) hN hJ287.1 hp292c) ?_
                rintro _ ⟨x294, M289, rfl, h295, h296, hJ290, hq293⟩
                replace hb : zHd _ := hb x294.toInt h295 h296 (zi M289) (zi_fr hJ290.2) hq293
                have hJ298 := zJ_trans hJ287 hJ290 zSub_nil
                show ZW _ _ _ _ _ _ _ (207, [some (.ref 2), o30_1, some (.int u30_2), some (.int v30_3), some (.int x283)], [.int x294], M289)
                rcases Int.decEq x294.toInt (0 : Int) with h299 | h299
                · skip
                  replace hb : zHd _ := hb.1 h299
                  refine w_ine_t dX5_read_207 (t := 216) rfl (by omega) ?_
                  refine w_lo dX5_read_216 rfl rfl rfl rfl ?_
                  refine w_iv dX5_read_217 rfl rfl (As := []) rfl rfl hJ298.1.1 zs_2 (Nat.le_of_ble_eq_true rfl) ?_
                  obtain ⟨P302, hp303, hb⟩ := hb
                  replace hb : zHd _ := hb
                  refine ZV.imp (u_1289 hN hJ298.1 hp303) ?_
                  rintro _ ⟨M300, rfl, hJ301, hq304⟩
                  replace hb : zHd _ := hb  (zi M300) (zi_fr hJ301.2) hq304
                  have hJ306 := zJ_trans hJ298 hJ301 (zSub_cons (fun _ _ h h' hk => zIR_s (zIR_s (zIR_s (zIR_s (zIR_s (zIR_s (zIR_s (zIR_s (zIR_s (zIR_s (zIR_s (zIR_s (zIR_s (zIR_s (zIR_s (zIR_s (zIR_s (zIR_s (zIR_s (zIR_e (by omega) (by omega) hk)))))))))))))))))))) zSub_nil)
                  show ZW _ _ _ _ _ _ _ (220, [some (.ref 2), o30_1, some (.int u30_2), some (.int v30_3), some (.int x283)], [], M300)
                  refine w_inc (kk := 3) dX5_read_220 rfl (m := 1) (by decide) (by omega) ?_
                  intro x307 h308
                  refine ⟨_, rfl, ?_⟩
                  replace hb : zHd _ := hb x307.toInt h308
                  show ZW _ _ _ _ _ _ _ (223, [some (.ref 2), o30_1, some (.int u30_2), some (.int x307), some (.int x283)], [], M300)
                  refine w_gt dX5_read_223 (t := 30) rfl ?_
                  obtain ⟨m, hm, hI⟩ := hb
                  exact (ih m hm) M300 o30_1 u30_2 x307 (some (.int x283)) hJ306 (by omega) (by omega) hI
                · skip
                  replace hb : zHd _ := hb.2 h299
                  refine w_ine_f dX5_read_207 (t := 216) rfl (by omega) ?_
                  refine w_lo dX5_read_210 rfl rfl rfl rfl ?_
                  refine w_ic dX5_read_211 zi_1 ?_
                  refine w_iv dX5_read_212 rfl rfl (As := [.int 1]) rfl rfl hJ298.1.1 zs_2 (Nat.le_of_ble_eq_true rfl) ?_
                  obtain ⟨P311, hp312, hb⟩ := hb
                  replace hb : zHd _ := hb
                  have hp312c : b_1286 (zi M289) (1 : Int32).toInt P311 := by rw [zt_1]; exact hp312
                  refine ZV.imp (u_1286 1 (by have := zt_1; omega) (by have := zt_1; omega) hN hJ298.1 hp312c) ?_
                  rintro _ ⟨x314, M309, rfl, h315, h316, hJ310, hq313⟩
                  replace hb : zHd _ := hb x314.toInt h315 h316 (zi M309) (zi_fr hJ310.2) hq313
                  have hJ318 := zJ_trans hJ298 hJ310 (zSub_cons (fun _ _ h h' hk => zIR_e (by omega) (by omega) hk) (zSub_cons (fun _ _ h h' hk => zIR_s (zIR_s (zIR_s (zIR_s (zIR_s (zIR_e (by omega) (by omega) hk)))))) zSub_nil))
                  show ZW _ _ _ _ _ _ _ (215, [some (.ref 2), o30_1, some (.int u30_2), some (.int v30_3), some (.int x283)], [.int x314], M309)
                  refine w_eni dX5_read_215 rfl (znb (by omega) (by omega)) ?_
                  exact ⟨_, _, rfl, (by omega), (by omega), hJ318, hb⟩
              · skip
                replace hb : zHd _ := hb.2 h288
                refine w_ine_f dX5_read_196 (t := 201) rfl (by omega) ?_
                refine w_ic dX5_read_199 zi_0 ?_
                refine w_en dX5_read_200 rfl ?_
                exact ⟨_, _, rfl, (by have := zt_0; omega), (by have := zt_0; omega), hJ287, hb⟩
            replace hb : zHd _ := hb.2 h277
            refine w_td dX5_read_74 (t := 187) (by omega) rfl ?_
            refine w_lo dX5_read_187 rfl rfl rfl rfl ?_
            refine w_ic dX5_read_188 zi_1 ?_
            refine w_iv dX5_read_189 rfl rfl (As := [.int 1]) rfl rfl hJ20.1.1 zs_2 (Nat.le_of_ble_eq_true rfl) ?_
            obtain ⟨P321, hp322, hb⟩ := hb
            replace hb : zHd _ := hb
            have hp322c : b_1286 (zi M11) (1 : Int32).toInt P321 := by rw [zt_1]; exact hp322
            refine ZV.imp (u_1286 1 (by have := zt_1; omega) (by have := zt_1; omega) hN hJ20.1 hp322c) ?_
            rintro _ ⟨x324, M319, rfl, h325, h326, hJ320, hq323⟩
            replace hb : zHd _ := hb x324.toInt h325 h326 (zi M319) (zi_fr hJ320.2) hq323
            have hJ328 := zJ_trans hJ20 hJ320 (zSub_cons (fun _ _ h h' hk => zIR_e (by omega) (by omega) hk) (zSub_cons (fun _ _ h h' hk => zIR_s (zIR_s (zIR_s (zIR_s (zIR_s (zIR_e (by omega) (by omega) hk)))))) zSub_nil))
            show ZW _ _ _ _ _ _ _ (192, [some (.ref 2), o30_1, some (.int u30_2), some (.int v30_3), o30_4], [.int x324], M319)
            refine w_lo (ml' := [some (.ref 2), o30_1, some (.int u30_2), some (.int v30_3), some (.int x324)]) dX5_read_192 rfl rfl rfl rfl ?_
            refine w_lo dX5_read_194 rfl rfl rfl rfl ?_
            refine w_ine_f dX5_read_196 (t := 201) rfl (by omega) ?_
            refine w_ic dX5_read_199 zi_0 ?_
            refine w_en dX5_read_200 rfl ?_
            exact ⟨_, _, rfl, (by have := zt_0; omega), (by have := zt_0; omega), hJ328, hb⟩
          · skip
            replace hb : zHd _ := hb.2 h10
            refine w_cne_f dX5_read_61 (t := 70) rfl (by have := zt_90; omega) ?_
            refine w_lo dX5_read_64 rfl rfl rfl rfl ?_
            refine w_ic dX5_read_65 zi_5 ?_
            refine w_iv dX5_read_66 rfl rfl (As := [.int 5]) rfl rfl hJ.1.1 zs_2 (Nat.le_of_ble_eq_true rfl) ?_
            obtain ⟨P331, hp332, hb⟩ := hb
            replace hb : zHd _ := hb
            have hp332c : b_1286 (zi M) (5 : Int32).toInt P331 := by rw [zt_5]; exact hp332
            refine ZV.imp (u_1286 5 (by have := zt_5; omega) (by have := zt_5; omega) hN hJ.1 hp332c) ?_
            rintro _ ⟨x334, M329, rfl, h335, h336, hJ330, hq333⟩
            replace hb : zHd _ := hb x334.toInt h335 h336 (zi M329) (zi_fr hJ330.2) hq333
            have hJ338 := zJ_trans hJ hJ330 (zSub_cons (fun _ _ h h' hk => zIR_e (by omega) (by omega) hk) (zSub_cons (fun _ _ h h' hk => zIR_s (zIR_s (zIR_s (zIR_s (zIR_s (zIR_e (by omega) (by omega) hk)))))) zSub_nil))
            show ZW _ _ _ _ _ _ _ (69, [some (.ref 2), o30_1, some (.int u30_2), some (.int v30_3), o30_4], [.int x334], M329)
            refine w_eni dX5_read_69 rfl (znb (by omega) (by omega)) ?_
            exact ⟨_, _, rfl, (by omega), (by omega), hJ338, hb⟩
        · skip
          replace hb : zHd _ := hb.2 h9
          refine w_ine_f dX5_read_45 (t := 58) rfl (by omega) ?_
          refine w_lo dX5_read_48 rfl rfl rfl rfl ?_
          obtain ⟨b339, f340, h341⟩ := zd_2_8 hJ.1
          have h342 := zDm_b h341
          refine w_gf dX5_read_49 rfl hJ.1.1 zs_2 f340 ?_
          replace hb : zHd _ := hb b339 (ziR f340) (zDm_or h341)
          refine w_lo dX5_read_52 rfl rfl rfl rfl ?_
          refine w_pfi dX5_read_53 rfl hJ (zs_1_0 h341) (Nat.le_of_ble_eq_true rfl) (zo_1_0_0 h341) (by omega) (by omega) ((zDm_or h341).elim (fun e => zIR_s (zIR_k (by omega) (by omega))) (fun e => zIR_s (zIR_s (zIR_s (zIR_k (by omega) (by omega)))))) rfl rfl rfl ?_
          intro M343 hJ344 f345 hn346
          replace hb : zHd _ := hb (zi M343) (zi_zup hn346 f345 rfl rfl)
          refine w_ic dX5_read_56 zi_1 ?_
          refine w_en dX5_read_57 rfl ?_
          exact ⟨_, _, rfl, (by have := zt_1; omega), (by have := zt_1; omega), hJ344, hb⟩
  have hb : zHd _ := hbE
  show ZW _ _ _ _ _ _ _ (0, [some (.ref 2), some (.ref 1), some (.int a1), none, none], [], M0)
  refine w_lo dX5_read_0 rfl rfl rfl rfl ?_
  obtain ⟨b348, f349, h350⟩ := zd_2_8 hJ0.1
  have h351 := zDm_b h350
  refine w_gf dX5_read_1 rfl hJ0.1.1 zs_2 f349 ?_
  replace hb : zHd _ := hb b348 (ziR f349) (zDm_or h350)
  refine w_iv dX5_read_4 rfl rfl (As := []) rfl rfl hJ0.1.1 (zs_1_0 h350) (Nat.le_of_ble_eq_true rfl) ?_
  obtain ⟨P354, hp355, hb⟩ := hb
  replace hb : zHd _ := hb
  refine ZV.imp (u_257 b348 h350 hN hJ0.1 hp355) ?_
  rintro _ ⟨M352, rfl, hJ353, hq356⟩
  replace hb : zHd _ := hb  (zi M352) (zi_fr hJ353.2) hq356
  have hJ358 := zJ_trans hJ0 hJ353 (zSub_cons (fun _ _ h h' hk => ((zDm_or h350).elim (fun e => zIR_s (zIR_e (by omega) (by omega) hk)) (fun e => zIR_s (zIR_s (zIR_s (zIR_e (by omega) (by omega) hk)))))) (zSub_cons (fun _ _ h h' hk => ((zDm_or h350).elim (fun e => zIR_s (zIR_s (zIR_e (by omega) (by omega) hk))) (fun e => zIR_s (zIR_s (zIR_s (zIR_s (zIR_e (by omega) (by omega) hk))))))) (zSub_cons (fun _ _ h h' hk => ((zDm_or h350).elim (fun e => zIR_s (zIR_s (zIR_s (zIR_s (zIR_s (zIR_s (zIR_e (by omega) (by omega) hk))))))) (fun e => zIR_s (zIR_s (zIR_s (zIR_s (zIR_s (zIR_s (zIR_s (zIR_s (zIR_e (by omega) (by omega) hk))))))))))) (zSub_cons (fun _ _ h h' hk => ((zDm_or h350).elim (fun e => zIR_s (zIR_s (zIR_s (zIR_s (zIR_s (zIR_s (zIR_s (zIR_e (by omega) (by omega) hk)))))))) (fun e => zIR_s (zIR_s (zIR_s (zIR_s (zIR_s (zIR_s (zIR_s (zIR_s (zIR_s (zIR_e (by omega) (by omega) hk)))))))))))) (zSub_cons (fun _ _ h h' hk => ((zDm_or h350).elim (fun e => zIR_s (zIR_s (zIR_s (zIR_s (zIR_s (zIR_s (zIR_s (zIR_s (zIR_s (zIR_s (zIR_s (zIR_s (zIR_a (by omega) (by omega)))))))))))))) (fun e => zIR_s (zIR_s (zIR_s (zIR_s (zIR_s (zIR_s (zIR_s (zIR_s (zIR_s (zIR_s (zIR_s (zIR_s (zIR_s (zIR_s (zIR_a (by omega) (by omega)))))))))))))))))) (zSub_cons (fun _ _ h h' hk => ((zDm_or h350).elim (fun e => zIR_s (zIR_s (zIR_s (zIR_s (zIR_s (zIR_s (zIR_s (zIR_s (zIR_s (zIR_s (zIR_s (zIR_s (zIR_s (zIR_s (zIR_s (zIR_s (zIR_e (by omega) (by omega) hk))))))))))))))))) (fun e => zIR_s (zIR_s (zIR_s (zIR_s (zIR_s (zIR_s (zIR_s (zIR_s (zIR_s (zIR_s (zIR_s (zIR_s (zIR_s (zIR_s (zIR_s (zIR_s (zIR_s (zIR_e (by omega) (by omega) hk)))))))))))))))))))) zSub_nil))))))
  show ZW _ _ _ _ _ _ _ (7, [some (.ref 2), some (.ref 1), some (.int a1), none, none], [], M352)
  refine w_lo dX5_read_7 rfl rfl rfl rfl ?_
  refine w_ic dX5_read_8 zi_0 ?_
  refine w_pfi dX5_read_9 rfl hJ358 zs_2 (Nat.le_of_ble_eq_true rfl) zo_2_0 (by have := zt_0; omega) (by have := zt_0; omega) (zIR_k (by omega) (by omega)) rfl rfl rfl ?_
  intro M359 hJ360 f361 hn362
  replace hb : zHd _ := hb (zi M359) (zi_zup hn362 f361 rfl zt_0)
  refine w_lo dX5_read_12 rfl rfl rfl rfl ?_
  refine w_ic dX5_read_13 zi_m1 ?_
  refine w_pfi dX5_read_14 rfl hJ360 zs_2 (Nat.le_of_ble_eq_true rfl) zo_2_1 (zbot _) (ztop _) (zIR_s (zIR_s (zIR_s (zIR_s (zIR_s (zIR_k (by omega) (by omega))))))) rfl rfl rfl ?_
  intro M364 hJ365 f366 hn367
  replace hb : zHd _ := hb (zi M364) (zi_zup hn367 f366 rfl zt_m1)
  refine w_lo dX5_read_17 rfl rfl rfl rfl ?_
  refine w_ic dX5_read_18 zi_0 ?_
  refine w_pfi dX5_read_19 rfl hJ365 zs_2 (Nat.le_of_ble_eq_true rfl) zo_2_7 (by have := zt_0; omega) (by have := zt_0; omega) (zIR_s (zIR_s (zIR_s (zIR_s (zIR_s (zIR_s (zIR_s (zIR_s (zIR_s (zIR_s (zIR_s (zIR_s (zIR_s (zIR_s (zIR_s (zIR_s (zIR_s (zIR_s (zIR_s (zIR_k (by omega) (by omega))))))))))))))))))))) rfl rfl rfl ?_
  intro M369 hJ370 f371 hn372
  replace hb : zHd _ := hb (zi M369) (zi_zup hn372 f371 rfl zt_0)
  refine w_lo dX5_read_22 rfl rfl rfl rfl ?_
  refine w_lo dX5_read_23 rfl rfl rfl rfl ?_
  refine w_lo dX5_read_24 rfl rfl rfl rfl ?_
  refine w_iv dX5_read_25 rfl rfl (As := [.ref 1, .int a1]) rfl rfl hJ370.1.1 zs_2 (Nat.le_of_ble_eq_true rfl) ?_
  obtain ⟨P376, hp377, hb⟩ := hb
  replace hb : zHd _ := hb
  refine ZV.imp (u_1282 a1 (by omega) (by omega) hN hJ370.1 hp377) ?_
  rintro _ ⟨M374, rfl, hJ375, hq378⟩
  replace hb : zHd _ := hb  (zi M374) (zi_fr hJ375.2) hq378
  have hJ380 := zJ_trans hJ370 hJ375 (zSub_cons (fun _ _ h h' hk => zIR_s (zIR_s (zIR_s (zIR_s (zIR_s (zIR_s (zIR_s (zIR_s (zIR_s (zIR_s (zIR_s (zIR_a (by omega) (by omega))))))))))))) (zSub_cons (fun _ _ h h' hk => zIR_s (zIR_s (zIR_s (zIR_s (zIR_s (zIR_s (zIR_s (zIR_s (zIR_s (zIR_s (zIR_s (zIR_s (zIR_s (zIR_s (zIR_s (zIR_s (zIR_s (zIR_s (zIR_e (by omega) (by omega) hk))))))))))))))))))) zSub_nil))
  show ZW _ _ _ _ _ _ _ (28, [some (.ref 2), some (.ref 1), some (.int a1), none, none], [], M374)
  refine w_ic dX5_read_28 zi_0 ?_
  refine w_lo (ml' := [some (.ref 2), some (.ref 1), some (.int a1), some (.int 0), none]) dX5_read_29 rfl rfl rfl rfl ?_
  obtain ⟨m, hI⟩ := hb
  exact (main m) M374 (some (.ref 1)) a1 0 none hJ380 (by have := zt_0; omega) (by have := zt_0; omega) hI
