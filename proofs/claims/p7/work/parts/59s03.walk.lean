/-! walks by pure conditions (wip/safe/vcp.py) -/
set_option maxRecDepth 100000 in
theorem u_2328 {X : List Int32} {d N : Nat} {M0 : zM} (a0 : Int32) (ha00 : (0 : Int) ≤ a0.toInt) (ha01 : a0.toInt ≤ 1) (hN : N ≤ 600) (hB0 : zB N M0) {Q : zF → Prop} (hb : b_2328 (zi M0) a0.toInt Q) : ZV X (d + 5) 2328 [.ref 386, .int a0] M0 (zRV N [(407, 415, 1000), (386, 387, 3), (386, 387, 34), (386, 387, 4), (386, 387, 41), (386, 387, 42), (386, 387, 44), (386, 387, 45), (386, 387, 5), (386, 387, 6), (386, 387, 7), (386, 387, 8), (386, 387, 9)] M0 (fun M' => Q (zi M'))) := by
  have hJ0 : zJ N [(407, 415, 1000), (386, 387, 3), (386, 387, 34), (386, 387, 4), (386, 387, 41), (386, 387, 42), (386, 387, 44), (386, 387, 45), (386, 387, 5), (386, 387, 6), (386, 387, 7), (386, 387, 8), (386, 387, 9)] M0 M0 := zJ_refl hB0
  refine ZV.of (ini := false) rfl (Nat.le_of_ble_eq_true rfl) (by decide +kernel) ?_
  obtain ⟨I43, hbE, hb43⟩ := hb
  replace hbE : zHd _ := hbE
  replace hb43 : zHd _ := hb43
  have main : ∀ n : Nat,
      (∀ (M : zM) (u43_1 : Int32) (v43_2 : Int32), zJ N [(407, 415, 1000), (386, 387, 3), (386, 387, 34), (386, 387, 4), (386, 387, 41), (386, 387, 42), (386, 387, 44), (386, 387, 45), (386, 387, 5), (386, 387, 6), (386, 387, 7), (386, 387, 8), (386, 387, 9)] M0 M → ((0 : Int) ≤ v43_2.toInt) → (v43_2.toInt ≤ 1) → I43 n (zi M) v43_2.toInt → ZW X (d + 4) 9 false none cX9_reads (zRV N [(407, 415, 1000), (386, 387, 3), (386, 387, 34), (386, 387, 4), (386, 387, 41), (386, 387, 42), (386, 387, 44), (386, 387, 45), (386, 387, 5), (386, 387, 6), (386, 387, 7), (386, 387, 8), (386, 387, 9)] M0 (fun M' => Q (zi M'))) (43, [some (.ref 386), some (.int u43_1), some (.int v43_2)], [], M)) := by
    intro n
    induction n using Nat.strongRecOn with
    | _ n ih =>
      · intro M u43_1 v43_2 hJ v43_20 v43_21 hI
        have hb : zHd _ := hb43 n (zi M) v43_2.toInt (zi_fr hJ.2) v43_20 v43_21 hI
        refine w_lo dX9_reads_43 rfl rfl rfl rfl ?_
        rcases Int.decEq v43_2.toInt (0 : Int) with h1 | h1
        · skip
          replace hb : zHd _ := hb.1 h1
          refine w_ieq_f dX9_reads_44 (t := 90) rfl (by omega) ?_
          refine w_lo dX9_reads_47 rfl rfl rfl rfl ?_
          refine w_gfi dX9_reads_48 rfl hJ.1 zs_386 (Nat.le_of_ble_eq_true rfl) zo_386_45 ?_
          intro x2 f3 h4 h5
          replace hb : zHd _ := hb x2.toInt (ziE f3) h4 h5
          rcases Int.decEq x2.toInt (0 : Int) with h6 | h6
          · skip
            replace hb : zHd _ := hb.1 h6
            refine w_ine_t dX9_reads_51 (t := 65) rfl (by omega) ?_
            refine w_lo dX9_reads_65 rfl rfl rfl rfl ?_
            refine w_iv dX9_reads_66 rfl rfl (As := []) rfl rfl hJ.1.1 zs_386 (Nat.le_of_ble_eq_true rfl) ?_
            obtain ⟨P9, hp10, hb⟩ := hb
            replace hb : zHd _ := hb
            refine ZV.imp (u_2336 hN hJ.1 hp10) ?_
            rintro _ ⟨x12, M7, rfl, h13, h14, hJ8, hq11⟩
            replace hb : zHd _ := hb x12.toInt h13 h14 (zi M7) (zi_fr hJ8.2) hq11
            have hJ16 := zJ_trans hJ hJ8 (zSub_cons (fun _ _ h h' hk => zIR_a (by omega) (by omega)) (zSub_cons (fun _ _ h h' hk => zIR_a (by omega) (by omega)) (zSub_cons (fun _ _ h h' hk => zIR_s (zIR_e (by omega) (by omega) hk)) (zSub_cons (fun _ _ h h' hk => zIR_s (zIR_s (zIR_e (by omega) (by omega) hk))) (zSub_cons (fun _ _ h h' hk => zIR_s (zIR_s (zIR_s (zIR_e (by omega) (by omega) hk)))) (zSub_cons (fun _ _ h h' hk => zIR_s (zIR_s (zIR_s (zIR_s (zIR_e (by omega) (by omega) hk))))) (zSub_cons (fun _ _ h h' hk => zIR_s (zIR_s (zIR_s (zIR_s (zIR_s (zIR_e (by omega) (by omega) hk)))))) (zSub_cons (fun _ _ h h' hk => zIR_s (zIR_s (zIR_s (zIR_s (zIR_s (zIR_s (zIR_e (by omega) (by omega) hk))))))) (zSub_cons (fun _ _ h h' hk => zIR_s (zIR_s (zIR_s (zIR_s (zIR_s (zIR_s (zIR_s (zIR_e (by omega) (by omega) hk)))))))) (zSub_cons (fun _ _ h h' hk => zIR_s (zIR_s (zIR_s (zIR_s (zIR_s (zIR_s (zIR_s (zIR_s (zIR_e (by omega) (by omega) hk))))))))) (zSub_cons (fun _ _ h h' hk => zIR_s (zIR_s (zIR_s (zIR_s (zIR_s (zIR_s (zIR_s (zIR_s (zIR_s (zIR_e (by omega) (by omega) hk)))))))))) (zSub_cons (fun _ _ h h' hk => zIR_s (zIR_s (zIR_s (zIR_s (zIR_s (zIR_s (zIR_s (zIR_s (zIR_s (zIR_s (zIR_e (by omega) (by omega) hk))))))))))) (zSub_cons (fun _ _ h h' hk => zIR_s (zIR_s (zIR_s (zIR_s (zIR_s (zIR_s (zIR_s (zIR_s (zIR_s (zIR_s (zIR_s (zIR_e (by omega) (by omega) hk)))))))))))) (zSub_cons (fun _ _ h h' hk => zIR_s (zIR_s (zIR_s (zIR_s (zIR_s (zIR_s (zIR_s (zIR_s (zIR_s (zIR_s (zIR_s (zIR_s (zIR_e (by omega) (by omega) hk))))))))))))) zSub_nil))))))))))))))
            show ZW _ _ _ _ _ _ _ (69, [some (.ref 386), some (.int u43_1), some (.int v43_2)], [.int x12], M7)
            refine w_lo (ml' := [some (.ref 386), some (.int u43_1), some (.int x12)]) dX9_reads_69 rfl rfl rfl rfl ?_
            refine w_lo dX9_reads_70 rfl rfl rfl rfl ?_
            rcases Int.decEq x12.toInt (0 : Int) with h17 | h17
            · skip
              replace hb : zHd _ := hb.1 h17
              refine w_ieq_f dX9_reads_71 (t := 85) rfl (by omega) ?_
              refine w_lo dX9_reads_74 rfl rfl rfl rfl ?_
              refine w_gfi dX9_reads_75 rfl hJ16.1 zs_386 (Nat.le_of_ble_eq_true rfl) zo_386_8 ?_
              intro x18 f19 h20 h21
              replace hb : zHd _ := hb x18.toInt (ziE f19) h20 h21
              rcases Int.decEq x18.toInt (0 : Int) with h22 | h22
              · skip
                replace hb : zHd _ := hb.1 h22
                refine w_ine_t dX9_reads_78 (t := 85) rfl (by omega) ?_
                refine w_ic dX9_reads_85 zi_0 ?_
                refine w_lo (ml' := [some (.ref 386), some (.int u43_1), some (.int 0)]) dX9_reads_86 rfl rfl rfl rfl ?_
                refine w_gt dX9_reads_87 (t := 43) rfl ?_
                obtain ⟨m, hm, hI⟩ := hb
                exact (ih m hm) M7 u43_1 0 hJ16 (by have := zt_0; omega) (by have := zt_0; omega) hI
              · skip
                replace hb : zHd _ := hb.2 h22
                refine w_ine_f dX9_reads_78 (t := 85) rfl (by omega) ?_
                refine w_ic dX9_reads_81 zi_1 ?_
                refine w_gt dX9_reads_82 (t := 86) rfl ?_
                refine w_lo (ml' := [some (.ref 386), some (.int u43_1), some (.int 1)]) dX9_reads_86 rfl rfl rfl rfl ?_
                refine w_gt dX9_reads_87 (t := 43) rfl ?_
                obtain ⟨m, hm, hI⟩ := hb
                exact (ih m hm) M7 u43_1 1 hJ16 (by have := zt_1; omega) (by have := zt_1; omega) hI
            · skip
              replace hb : zHd _ := hb.2 h17
              refine w_ieq_t dX9_reads_71 (t := 85) rfl (by omega) ?_
              refine w_ic dX9_reads_85 zi_0 ?_
              refine w_lo (ml' := [some (.ref 386), some (.int u43_1), some (.int 0)]) dX9_reads_86 rfl rfl rfl rfl ?_
              refine w_gt dX9_reads_87 (t := 43) rfl ?_
              obtain ⟨m, hm, hI⟩ := hb
              exact (ih m hm) M7 u43_1 0 hJ16 (by have := zt_0; omega) (by have := zt_0; omega) hI
          · skip
            replace hb : zHd _ := hb.2 h6
            refine w_ine_f dX9_reads_51 (t := 65) rfl (by omega) ?_
            refine w_lo dX9_reads_54 rfl rfl rfl rfl ?_
            refine w_lo dX9_reads_55 rfl rfl rfl rfl ?_
            refine w_iv dX9_reads_56 rfl rfl (As := []) rfl rfl hJ.1.1 zs_386 (Nat.le_of_ble_eq_true rfl) ?_
            obtain ⟨P25, hp26, hb⟩ := hb
            replace hb : zHd _ := hb
            refine ZV.imp (u_2330 hN hJ.1 hp26) ?_
            rintro _ ⟨x28, M23, rfl, h29, h30, hJ24, hq27⟩
            replace hb : zHd _ := hb x28.toInt h29 h30 (zi M23) (zi_fr hJ24.2) hq27
            have hJ32 := zJ_trans hJ hJ24 (zSub_cons (fun _ _ h h' hk => zIR_a (by omega) (by omega)) (zSub_cons (fun _ _ h h' hk => zIR_s (zIR_e (by omega) (by omega) hk)) (zSub_cons (fun _ _ h h' hk => zIR_s (zIR_s (zIR_e (by omega) (by omega) hk))) (zSub_cons (fun _ _ h h' hk => zIR_s (zIR_s (zIR_s (zIR_e (by omega) (by omega) hk)))) (zSub_cons (fun _ _ h h' hk => zIR_s (zIR_s (zIR_s (zIR_s (zIR_e (by omega) (by omega) hk))))) (zSub_cons (fun _ _ h h' hk => zIR_s (zIR_s (zIR_s (zIR_s (zIR_s (zIR_e (by omega) (by omega) hk)))))) (zSub_cons (fun _ _ h h' hk => zIR_s (zIR_s (zIR_s (zIR_s (zIR_s (zIR_s (zIR_e (by omega) (by omega) hk))))))) (zSub_cons (fun _ _ h h' hk => zIR_s (zIR_s (zIR_s (zIR_s (zIR_s (zIR_s (zIR_s (zIR_s (zIR_e (by omega) (by omega) hk))))))))) (zSub_cons (fun _ _ h h' hk => zIR_s (zIR_s (zIR_s (zIR_s (zIR_s (zIR_s (zIR_s (zIR_s (zIR_s (zIR_e (by omega) (by omega) hk)))))))))) (zSub_cons (fun _ _ h h' hk => zIR_s (zIR_s (zIR_s (zIR_s (zIR_s (zIR_s (zIR_s (zIR_s (zIR_s (zIR_s (zIR_e (by omega) (by omega) hk))))))))))) (zSub_cons (fun _ _ h h' hk => zIR_s (zIR_s (zIR_s (zIR_s (zIR_s (zIR_s (zIR_s (zIR_s (zIR_s (zIR_s (zIR_s (zIR_e (by omega) (by omega) hk)))))))))))) (zSub_cons (fun _ _ h h' hk => zIR_s (zIR_s (zIR_s (zIR_s (zIR_s (zIR_s (zIR_s (zIR_s (zIR_s (zIR_s (zIR_s (zIR_s (zIR_e (by omega) (by omega) hk))))))))))))) zSub_nil))))))))))))
            show ZW _ _ _ _ _ _ _ (59, [some (.ref 386), some (.int u43_1), some (.int v43_2)], [.int x28, .ref 386], M23)
            refine w_pfi dX9_reads_59 rfl hJ32 zs_386 (Nat.le_of_ble_eq_true rfl) zo_386_45 (by omega) (by omega) (zIR_s (zIR_s (zIR_s (zIR_s (zIR_s (zIR_s (zIR_s (zIR_k (by omega) (by omega))))))))) (znb (by omega) (by omega)) (zfitI (by omega) (by omega)) rfl ?_
            intro M33 hJ34 f35 hn36
            replace hb : zHd _ := hb (zi M33) (zi_zup hn36 f35 rfl rfl)
            refine w_gt dX9_reads_62 (t := 70) rfl ?_
            refine w_lo dX9_reads_70 rfl rfl rfl rfl ?_
            refine w_ieq_f dX9_reads_71 (t := 85) rfl (by omega) ?_
            refine w_lo dX9_reads_74 rfl rfl rfl rfl ?_
            refine w_gfi dX9_reads_75 rfl hJ34.1 zs_386 (Nat.le_of_ble_eq_true rfl) zo_386_8 ?_
            intro x38 f39 h40 h41
            replace hb : zHd _ := hb x38.toInt (ziE f39) h40 h41
            rcases Int.decEq x38.toInt (0 : Int) with h42 | h42
            · skip
              replace hb : zHd _ := hb.1 h42
              refine w_ine_t dX9_reads_78 (t := 85) rfl (by omega) ?_
              refine w_ic dX9_reads_85 zi_0 ?_
              refine w_lo (ml' := [some (.ref 386), some (.int u43_1), some (.int 0)]) dX9_reads_86 rfl rfl rfl rfl ?_
              refine w_gt dX9_reads_87 (t := 43) rfl ?_
              obtain ⟨m, hm, hI⟩ := hb
              exact (ih m hm) M33 u43_1 0 hJ34 (by have := zt_0; omega) (by have := zt_0; omega) hI
            · skip
              replace hb : zHd _ := hb.2 h42
              refine w_ine_f dX9_reads_78 (t := 85) rfl (by omega) ?_
              refine w_ic dX9_reads_81 zi_1 ?_
              refine w_gt dX9_reads_82 (t := 86) rfl ?_
              refine w_lo (ml' := [some (.ref 386), some (.int u43_1), some (.int 1)]) dX9_reads_86 rfl rfl rfl rfl ?_
              refine w_gt dX9_reads_87 (t := 43) rfl ?_
              obtain ⟨m, hm, hI⟩ := hb
              exact (ih m hm) M33 u43_1 1 hJ34 (by have := zt_1; omega) (by have := zt_1; omega) hI
        · skip
          replace hb : zHd _ := hb.2 h1
          refine w_ieq_t dX9_reads_44 (t := 90) rfl (by omega) ?_
          refine w_en dX9_reads_90 rfl ?_
          exact ⟨_, rfl, hJ, hb⟩
  have hb : zHd _ := hbE
  show ZW _ _ _ _ _ _ _ (0, [some (.ref 386), some (.int a0), none], [], M0)
  refine w_lo dX9_reads_0 rfl rfl rfl rfl ?_
  refine w_gfi dX9_reads_1 rfl hJ0.1 zs_386 (Nat.le_of_ble_eq_true rfl) zo_386_8 ?_
  intro x43 f44 h45 h46
  replace hb : zHd _ := hb x43.toInt (ziE f44) h45 h46
  rcases zcut (0 : Int) x43.toInt with h47 | h47
  · skip
    replace hb : zHd _ := hb.1 h47
    refine w_ile_f dX9_reads_4 (t := 8) rfl (by omega) ?_
    refine w_en dX9_reads_7 rfl ?_
    exact ⟨_, rfl, hJ0, hb⟩
  · skip
    replace hb : zHd _ := hb.2 h47
    refine w_ile_t dX9_reads_4 (t := 8) rfl (by omega) ?_
    refine w_lo dX9_reads_8 rfl rfl rfl rfl ?_
    refine w_ic dX9_reads_9 zi_0 ?_
    refine w_pfi dX9_reads_10 rfl hJ0 zs_386 (Nat.le_of_ble_eq_true rfl) zo_386_41 (by have := zt_0; omega) (by have := zt_0; omega) (zIR_s (zIR_s (zIR_s (zIR_s (zIR_k (by omega) (by omega)))))) rfl rfl rfl ?_
    intro M48 hJ49 f50 hn51
    replace hb : zHd _ := hb (zi M48) (zi_zup hn51 f50 rfl zt_0)
    refine w_lo dX9_reads_13 rfl rfl rfl rfl ?_
    refine w_ic dX9_reads_14 zi_0 ?_
    refine w_pfi dX9_reads_15 rfl hJ49 zs_386 (Nat.le_of_ble_eq_true rfl) zo_386_42 (by have := zt_0; omega) (by have := zt_0; omega) (zIR_s (zIR_s (zIR_s (zIR_s (zIR_s (zIR_k (by omega) (by omega))))))) rfl rfl rfl ?_
    intro M53 hJ54 f55 hn56
    replace hb : zHd _ := hb (zi M53) (zi_zup hn56 f55 rfl zt_0)
    refine w_lo dX9_reads_18 rfl rfl rfl rfl ?_
    refine w_ic dX9_reads_19 zi_0 ?_
    refine w_pfi dX9_reads_20 rfl hJ54 zs_386 (Nat.le_of_ble_eq_true rfl) zo_386_44 (by have := zt_0; omega) (by have := zt_0; omega) (zIR_s (zIR_s (zIR_s (zIR_s (zIR_s (zIR_s (zIR_k (by omega) (by omega)))))))) rfl rfl rfl ?_
    intro M58 hJ59 f60 hn61
    replace hb : zHd _ := hb (zi M58) (zi_zup hn61 f60 rfl zt_0)
    refine w_lo dX9_reads_23 rfl rfl rfl rfl ?_
    refine w_ic dX9_reads_24 zi_0 ?_
    refine w_pfi dX9_reads_25 rfl hJ59 zs_386 (Nat.le_of_ble_eq_true rfl) zo_386_45 (by have := zt_0; omega) (by have := zt_0; omega) (zIR_s (zIR_s (zIR_s (zIR_s (zIR_s (zIR_s (zIR_s (zIR_k (by omega) (by omega))))))))) rfl rfl rfl ?_
    intro M63 hJ64 f65 hn66
    replace hb : zHd _ := hb (zi M63) (zi_zup hn66 f65 rfl zt_0)
    refine w_lo dX9_reads_28 rfl rfl rfl rfl ?_
    refine w_lo dX9_reads_29 rfl rfl rfl rfl ?_
    rcases Int.decEq a0.toInt (0 : Int) with h68 | h68
    · skip
      replace hb : zHd _ := hb.1 h68
      refine w_ieq_f dX9_reads_30 (t := 37) rfl (by omega) ?_
      refine w_ic dX9_reads_33 zi_1 ?_
      refine w_gt dX9_reads_34 (t := 38) rfl ?_
      refine w_iv dX9_reads_38 rfl rfl (As := [.int 1]) rfl rfl hJ64.1.1 zs_386 (Nat.le_of_ble_eq_true rfl) ?_
      obtain ⟨P71, hp72, hb⟩ := hb
      replace hb : zHd _ := hb
      have hp72c : b_2329 (zi M63) (1 : Int32).toInt P71 := by rw [zt_1]; exact hp72
      refine ZV.imp (u_2329 1 hN hJ64.1 hp72c) ?_
      rintro _ ⟨M69, rfl, hJ70, hq73⟩
      replace hb : zHd _ := hb  (zi M69) (zi_fr hJ70.2) hq73
      have hJ75 := zJ_trans hJ64 hJ70 (zSub_cons (fun _ _ h h' hk => zIR_a (by omega) (by omega)) (zSub_cons (fun _ _ h h' hk => zIR_a (by omega) (by omega)) (zSub_cons (fun _ _ h h' hk => zIR_s (zIR_s (zIR_s (zIR_s (zIR_e (by omega) (by omega) hk))))) zSub_nil)))
      show ZW _ _ _ _ _ _ _ (41, [some (.ref 386), some (.int a0), none], [], M69)
      refine w_ic dX9_reads_41 zi_1 ?_
      refine w_lo (ml' := [some (.ref 386), some (.int a0), some (.int 1)]) dX9_reads_42 rfl rfl rfl rfl ?_
      obtain ⟨m, hI⟩ := hb
      exact (main m) M69 a0 1 hJ75 (by have := zt_1; omega) (by have := zt_1; omega) hI
    · skip
      replace hb : zHd _ := hb.2 h68
      refine w_ieq_t dX9_reads_30 (t := 37) rfl (by omega) ?_
      refine w_ic dX9_reads_37 zi_0 ?_
      refine w_iv dX9_reads_38 rfl rfl (As := [.int 0]) rfl rfl hJ64.1.1 zs_386 (Nat.le_of_ble_eq_true rfl) ?_
      obtain ⟨P78, hp79, hb⟩ := hb
      replace hb : zHd _ := hb
      have hp79c : b_2329 (zi M63) (0 : Int32).toInt P78 := by rw [zt_0]; exact hp79
      refine ZV.imp (u_2329 0 hN hJ64.1 hp79c) ?_
      rintro _ ⟨M76, rfl, hJ77, hq80⟩
      replace hb : zHd _ := hb  (zi M76) (zi_fr hJ77.2) hq80
      have hJ82 := zJ_trans hJ64 hJ77 (zSub_cons (fun _ _ h h' hk => zIR_a (by omega) (by omega)) (zSub_cons (fun _ _ h h' hk => zIR_a (by omega) (by omega)) (zSub_cons (fun _ _ h h' hk => zIR_s (zIR_s (zIR_s (zIR_s (zIR_e (by omega) (by omega) hk))))) zSub_nil)))
      show ZW _ _ _ _ _ _ _ (41, [some (.ref 386), some (.int a0), none], [], M76)
      refine w_ic dX9_reads_41 zi_1 ?_
      refine w_lo (ml' := [some (.ref 386), some (.int a0), some (.int 1)]) dX9_reads_42 rfl rfl rfl rfl ?_
      obtain ⟨m, hI⟩ := hb
      exact (main m) M76 a0 1 hJ82 (by have := zt_1; omega) (by have := zt_1; omega) hI
set_option maxRecDepth 100000 in
theorem u_2327 {X : List Int32} {d N : Nat} {M0 : zM} (a0 : Int32) (hN : N ≤ 600) (hB0 : zB N M0) {Q : zF → Prop} (hb : b_2327 (zi M0) a0.toInt Q) : ZV X (d + 6) 2327 [.ref 386, .int a0] M0 (zRV N [(402, 415, 1000), (386, 387, 3), (386, 387, 34), (386, 387, 4), (386, 387, 41), (386, 387, 42), (386, 387, 44), (386, 387, 45), (386, 387, 5), (386, 387, 6), (386, 387, 7), (386, 387, 8), (386, 387, 9)] M0 (fun M' => Q (zi M'))) := by
  have hJ0 : zJ N [(402, 415, 1000), (386, 387, 3), (386, 387, 34), (386, 387, 4), (386, 387, 41), (386, 387, 42), (386, 387, 44), (386, 387, 45), (386, 387, 5), (386, 387, 6), (386, 387, 7), (386, 387, 8), (386, 387, 9)] M0 M0 := zJ_refl hB0
  refine ZV.of (ini := false) rfl (Nat.le_of_ble_eq_true rfl) (by decide +kernel) ?_
  unfold b_2327 at hb
  replace hb : zHd _ := hb
  show ZW _ _ _ _ _ _ _ (0, [some (.ref 386), some (.int a0), none], [], M0)
  refine w_lo dX9_lawing_0 rfl rfl rfl rfl ?_
  refine w_lo dX9_lawing_1 rfl rfl rfl rfl ?_
  refine w_gf dX9_lawing_2 rfl hJ0.1.1 zs_386 (zr_386_27 hJ0.1) ?_
  refine w_lo dX9_lawing_5 rfl rfl rfl rfl ?_
  refine w_gfi dX9_lawing_6 rfl hJ0.1 zs_386 (Nat.le_of_ble_eq_true rfl) zo_386_35 ?_
  intro x1 f2 h3 h4
  replace hb : zHd _ := hb x1.toInt (ziE f2) h3 h4
  refine w_iai dX9_lawing_9 hJ0.1 zs_402 (by omega) (by omega) zu_402 ?_
  intro x8 f5 h6 h7
  replace hb : zHd _ := hb x8.toInt (ziEk f5 rfl) h6 h7
  refine w_bi dX9_lawing_10 (c := 8) (by decide) ?_
  rcases Int.decEq x8.toInt (8 : Int) with h9 | h9
  · skip
    replace hb : zHd _ := hb.1 h9
    refine w_cne_t dX9_lawing_12 (t := 19) rfl (by have := zt_8; omega) ?_
    refine w_ic dX9_lawing_19 zi_0 ?_
    refine w_iv dX9_lawing_20 rfl rfl (As := [.int 0]) rfl rfl hJ0.1.1 zs_386 (Nat.le_of_ble_eq_true rfl) ?_
    refine ZV.of (ini := false) rfl (Nat.le_of_ble_eq_true rfl) (by decide +kernel) ?_
    show ZW _ _ _ _ _ _ _ (0, [some (.ref 386), some (.int 0)], [], M0)
    refine w_lo dX9_counts_0 rfl rfl rfl rfl ?_
    refine w_gfi dX9_counts_1 rfl hJ0.1 zs_386 (Nat.le_of_ble_eq_true rfl) zo_386_8 ?_
    intro x10 f11 h12 h13
    replace hb : zHd _ := hb x10.toInt (ziE f11) h12 h13
    rcases Int.decEq x10.toInt (0 : Int) with h14 | h14
    · skip
      replace hb : zHd _ := hb.1 h14
      refine w_ine_t dX9_counts_4 (t := 20) rfl (by omega) ?_
      refine w_lo dX9_counts_20 rfl rfl rfl rfl ?_
      refine w_gf dX9_counts_21 rfl hJ0.1.1 zs_386 f11 ?_
      refine w_ine_t dX9_counts_24 (t := 31) rfl (by omega) ?_
      refine w_lo dX9_counts_31 rfl rfl rfl rfl ?_
      refine w_gf dX9_counts_32 rfl hJ0.1.1 zs_386 f11 ?_
      refine w_ine_t dX9_counts_35 (t := 42) rfl (by omega) ?_
      refine w_ic dX9_counts_42 zi_0 ?_
      refine w_en dX9_counts_43 rfl ?_
      show ZW _ _ _ _ _ _ _ (23, [some (.ref 386), some (.int a0), none], [.int 0], M0)
      refine w_ine_f dX9_lawing_23 (t := 27) rfl (by have := zt_0; omega) ?_
      refine w_en dX9_lawing_26 rfl ?_
      exact ⟨_, rfl, hJ0, hb⟩
    · skip
      replace hb : zHd _ := hb.2 h14
      refine w_ine_f dX9_counts_4 (t := 20) rfl (by omega) ?_
      refine w_lo dX9_counts_7 rfl rfl rfl rfl ?_
      refine w_ieq_t dX9_counts_8 (t := 20) rfl (by have := zt_0; omega) ?_
      refine w_lo dX9_counts_20 rfl rfl rfl rfl ?_
      refine w_gf dX9_counts_21 rfl hJ0.1.1 zs_386 f11 ?_
      refine w_ine_f dX9_counts_24 (t := 31) rfl (by omega) ?_
      refine w_lo dX9_counts_27 rfl rfl rfl rfl ?_
      refine w_iv dX9_counts_28 rfl rfl (As := []) rfl rfl hJ0.1.1 zs_386 (Nat.le_of_ble_eq_true rfl) ?_
      obtain ⟨P17, hp18, hb⟩ := hb
      replace hb : zHd _ := hb
      refine ZV.imp (u_2310 hN hJ0.1 hp18) ?_
      rintro _ ⟨M15, rfl, hJ16, hq19⟩
      replace hb : zHd _ := hb  (zi M15) (zi_fr hJ16.2) hq19
      have hJ21 := zJ_trans hJ0 hJ16 (zSub_cons (fun _ _ h h' hk => zIR_s (zIR_e (by omega) (by omega) hk)) (zSub_cons (fun _ _ h h' hk => zIR_s (zIR_s (zIR_s (zIR_e (by omega) (by omega) hk)))) (zSub_cons (fun _ _ h h' hk => zIR_s (zIR_s (zIR_s (zIR_s (zIR_s (zIR_s (zIR_s (zIR_s (zIR_e (by omega) (by omega) hk))))))))) (zSub_cons (fun _ _ h h' hk => zIR_s (zIR_s (zIR_s (zIR_s (zIR_s (zIR_s (zIR_s (zIR_s (zIR_s (zIR_e (by omega) (by omega) hk)))))))))) (zSub_cons (fun _ _ h h' hk => zIR_s (zIR_s (zIR_s (zIR_s (zIR_s (zIR_s (zIR_s (zIR_s (zIR_s (zIR_s (zIR_e (by omega) (by omega) hk))))))))))) (zSub_cons (fun _ _ h h' hk => zIR_s (zIR_s (zIR_s (zIR_s (zIR_s (zIR_s (zIR_s (zIR_s (zIR_s (zIR_s (zIR_s (zIR_e (by omega) (by omega) hk)))))))))))) (zSub_cons (fun _ _ h h' hk => zIR_s (zIR_s (zIR_s (zIR_s (zIR_s (zIR_s (zIR_s (zIR_s (zIR_s (zIR_s (zIR_s (zIR_s (zIR_e (by omega) (by omega) hk))))))))))))) zSub_nil)))))))
      show ZW _ _ _ _ _ _ _ (31, [some (.ref 386), some (.int 0)], [], M15)
      refine w_lo dX9_counts_31 rfl rfl rfl rfl ?_
      refine w_gfi dX9_counts_32 rfl hJ21.1 zs_386 (Nat.le_of_ble_eq_true rfl) zo_386_8 ?_
      intro x22 f23 h24 h25
      replace hb : zHd _ := hb x22.toInt (ziE f23) h24 h25
      rcases Int.decEq x22.toInt (0 : Int) with h26 | h26
      · skip
        replace hb : zHd _ := hb.1 h26
        refine w_ine_t dX9_counts_35 (t := 42) rfl (by omega) ?_
        refine w_ic dX9_counts_42 zi_0 ?_
        refine w_en dX9_counts_43 rfl ?_
        show ZW _ _ _ _ _ _ _ (23, [some (.ref 386), some (.int a0), none], [.int 0], M15)
        refine w_ine_f dX9_lawing_23 (t := 27) rfl (by have := zt_0; omega) ?_
        refine w_en dX9_lawing_26 rfl ?_
        exact ⟨_, rfl, hJ21, hb⟩
      · skip
        replace hb : zHd _ := hb.2 h26
        refine w_ine_f dX9_counts_35 (t := 42) rfl (by omega) ?_
        refine w_ic dX9_counts_38 zi_1 ?_
        refine w_gt dX9_counts_39 (t := 43) rfl ?_
        refine w_en dX9_counts_43 rfl ?_
        show ZW _ _ _ _ _ _ _ (23, [some (.ref 386), some (.int a0), none], [.int 1], M15)
        refine w_ine_t dX9_lawing_23 (t := 27) rfl (by have := zt_1; omega) ?_
        refine w_bi dX9_lawing_27 (c := 8) (by decide) ?_
        refine w_lo dX9_lawing_29 rfl rfl rfl rfl ?_
        have f27 := (hJ16.2 (386) 35 (zNI_k (by decide) (by decide) (zNI_k (by decide) (by decide) (zNI_k (by decide) (by decide) (zNI_k (by decide) (by decide) (zNI_k (by decide) (by decide) (zNI_k (by decide) (by decide) (zNI_k (by decide) (by decide) zNI_nil)))))))).trans (f2)
        refine w_gf dX9_lawing_30 rfl hJ21.1.1 zs_386 f27 ?_
        refine w_mulc dX9_lawing_33 zt_8 (by have := zt_8; omega) ?_
        intro x28 h29
        have := zt_8
        replace hb : zHd _ := hb x28.toInt (by have := zt_8; omega)
        refine w_lo dX9_lawing_34 rfl rfl rfl rfl ?_
        refine w_gf dX9_lawing_35 rfl hJ21.1.1 zs_386 (zr_386_27 hJ21.1) ?_
        refine w_lo dX9_lawing_38 rfl rfl rfl rfl ?_
        refine w_gf dX9_lawing_39 rfl hJ21.1.1 zs_386 f27 ?_
        have f33 := (hJ16.2 (402) (x1 : Int32).toInt.toNat (zNI (by omega) (zNI (by omega) (zNI (by omega) (zNI (by omega) (zNI (by omega) (zNI (by omega) (zNI (by omega) zNI_nil)))))))).trans (f5)
        refine w_ia dX9_lawing_42 hJ21.1.1 zs_402 (znat (by omega)) f33 ?_
        refine w_add dX9_lawing_43 (by omega) ?_
        intro x34 h35
        replace hb : zHd _ := hb x34.toInt (by omega)
        refine w_lo (ml' := [some (.ref 386), some (.int a0), some (.int x34)]) dX9_lawing_44 rfl rfl rfl rfl ?_
        refine w_lo dX9_lawing_45 rfl rfl rfl rfl ?_
        refine w_gf dX9_lawing_46 rfl hJ21.1.1 zs_386 (zr_386_28 hJ21.1) ?_
        refine w_lo dX9_lawing_49 rfl rfl rfl rfl ?_
        refine w_lo dX9_lawing_50 rfl rfl rfl rfl ?_
        have h36 := hb.1
        replace hb : zHd _ := hb.2
        refine w_isi dX9_lawing_51 hJ21 zs_403 (by omega) (by omega) zu_403 (by omega) (by omega) (zIR_a (by omega) (by omega)) ?_
        intro M37 hJ38 f39 hn40
        replace hb : zHd _ := hb (zi M37) (zi_zup hn40 f39 rfl rfl)
        refine w_lo dX9_lawing_52 rfl rfl rfl rfl ?_
        refine w_gf dX9_lawing_53 rfl hJ38.1.1 zs_386 (zr_386_29 hJ38.1) ?_
        refine w_lo dX9_lawing_56 rfl rfl rfl rfl ?_
        refine w_lo dX9_lawing_57 rfl rfl rfl rfl ?_
        refine w_gfi dX9_lawing_58 rfl hJ38.1 zs_386 (Nat.le_of_ble_eq_true rfl) zo_386_34 ?_
        intro x42 f43 h44 h45
        replace hb : zHd _ := hb x42.toInt (ziE f43) h44 h45
        refine w_isi dX9_lawing_61 hJ38 zs_404 (by omega) (by omega) zu_404 (by omega) (by omega) (zIR_a (by omega) (by omega)) ?_
        intro M46 hJ47 f48 hn49
        replace hb : zHd _ := hb (zi M46) (zi_zup hn49 f48 rfl rfl)
        refine w_lo dX9_lawing_62 rfl rfl rfl rfl ?_
        refine w_ic dX9_lawing_63 zi_0 ?_
        refine w_iv dX9_lawing_64 rfl rfl (As := [.int 0]) rfl rfl hJ47.1.1 zs_386 (Nat.le_of_ble_eq_true rfl) ?_
        obtain ⟨P53, hp54, hb⟩ := hb
        replace hb : zHd _ := hb
        have hp54c : b_2328 (zi M46) (0 : Int32).toInt P53 := by rw [zt_0]; exact hp54
        refine ZV.imp (u_2328 0 (by have := zt_0; omega) (by have := zt_0; omega) hN hJ47.1 hp54c) ?_
        rintro _ ⟨M51, rfl, hJ52, hq55⟩
        replace hb : zHd _ := hb  (zi M51) (zi_fr hJ52.2) hq55
        have hJ57 := zJ_trans hJ47 hJ52 (zSub_cons (fun _ _ h h' hk => zIR_a (by omega) (by omega)) (zSub_cons (fun _ _ h h' hk => zIR_s (zIR_e (by omega) (by omega) hk)) (zSub_cons (fun _ _ h h' hk => zIR_s (zIR_s (zIR_e (by omega) (by omega) hk))) (zSub_cons (fun _ _ h h' hk => zIR_s (zIR_s (zIR_s (zIR_e (by omega) (by omega) hk)))) (zSub_cons (fun _ _ h h' hk => zIR_s (zIR_s (zIR_s (zIR_s (zIR_e (by omega) (by omega) hk))))) (zSub_cons (fun _ _ h h' hk => zIR_s (zIR_s (zIR_s (zIR_s (zIR_s (zIR_e (by omega) (by omega) hk)))))) (zSub_cons (fun _ _ h h' hk => zIR_s (zIR_s (zIR_s (zIR_s (zIR_s (zIR_s (zIR_e (by omega) (by omega) hk))))))) (zSub_cons (fun _ _ h h' hk => zIR_s (zIR_s (zIR_s (zIR_s (zIR_s (zIR_s (zIR_s (zIR_e (by omega) (by omega) hk)))))))) (zSub_cons (fun _ _ h h' hk => zIR_s (zIR_s (zIR_s (zIR_s (zIR_s (zIR_s (zIR_s (zIR_s (zIR_e (by omega) (by omega) hk))))))))) (zSub_cons (fun _ _ h h' hk => zIR_s (zIR_s (zIR_s (zIR_s (zIR_s (zIR_s (zIR_s (zIR_s (zIR_s (zIR_e (by omega) (by omega) hk)))))))))) (zSub_cons (fun _ _ h h' hk => zIR_s (zIR_s (zIR_s (zIR_s (zIR_s (zIR_s (zIR_s (zIR_s (zIR_s (zIR_s (zIR_e (by omega) (by omega) hk))))))))))) (zSub_cons (fun _ _ h h' hk => zIR_s (zIR_s (zIR_s (zIR_s (zIR_s (zIR_s (zIR_s (zIR_s (zIR_s (zIR_s (zIR_s (zIR_e (by omega) (by omega) hk)))))))))))) (zSub_cons (fun _ _ h h' hk => zIR_s (zIR_s (zIR_s (zIR_s (zIR_s (zIR_s (zIR_s (zIR_s (zIR_s (zIR_s (zIR_s (zIR_s (zIR_e (by omega) (by omega) hk))))))))))))) zSub_nil)))))))))))))
        show ZW _ _ _ _ _ _ _ (67, [some (.ref 386), some (.int a0), some (.int x34)], [], M51)
        refine w_lo dX9_lawing_67 rfl rfl rfl rfl ?_
        refine w_gf dX9_lawing_68 rfl hJ57.1.1 zs_386 (zr_386_30 hJ57.1) ?_
        refine w_lo dX9_lawing_71 rfl rfl rfl rfl ?_
        refine w_lo dX9_lawing_72 rfl rfl rfl rfl ?_
        refine w_gfi dX9_lawing_73 rfl hJ57.1 zs_386 (Nat.le_of_ble_eq_true rfl) zo_386_34 ?_
        intro x58 f59 h60 h61
        replace hb : zHd _ := hb x58.toInt (ziE f59) h60 h61
        refine w_isi dX9_lawing_76 hJ57 zs_405 (by omega) (by omega) zu_405 (by omega) (by omega) (zIR_a (by omega) (by omega)) ?_
        intro M62 hJ63 f64 hn65
        replace hb : zHd _ := hb (zi M62) (zi_zup hn65 f64 rfl rfl)
        refine w_lo dX9_lawing_77 rfl rfl rfl rfl ?_
        refine w_me (st' := [.long (2003330414 : Int64), .ref 386]) dX9_lawing_78 rfl rfl rfl rfl rfl ?_
        refine w_iv dX9_lawing_81 rfl rfl (As := [.long (2003330414 : Int64)]) rfl rfl hJ63.1.1 zs_386 (Nat.le_of_ble_eq_true rfl) ?_
        obtain ⟨P69, hp70, hb⟩ := hb
        replace hb : zHd _ := hb
        have hp70c : b_2321 (zi M62) (2003330414 : Int64).toInt P69 := by rw [ztl_2003330414]; exact hp70
        refine ZV.imp (u_2321 (2003330414 : Int64) hN hJ63.1 hp70c) ?_
        rintro _ ⟨M67, rfl, hJ68, hq71⟩
        replace hb : zHd _ := hb  (zi M67) (zi_fr hJ68.2) hq71
        have hJ73 := zJ_trans hJ63 hJ68 (zSub_cons (fun _ _ h h' hk => zIR_s (zIR_e (by omega) (by omega) hk)) (zSub_cons (fun _ _ h h' hk => zIR_s (zIR_s (zIR_s (zIR_e (by omega) (by omega) hk)))) (zSub_cons (fun _ _ h h' hk => zIR_s (zIR_s (zIR_s (zIR_s (zIR_s (zIR_s (zIR_s (zIR_s (zIR_e (by omega) (by omega) hk))))))))) (zSub_cons (fun _ _ h h' hk => zIR_s (zIR_s (zIR_s (zIR_s (zIR_s (zIR_s (zIR_s (zIR_s (zIR_s (zIR_e (by omega) (by omega) hk)))))))))) (zSub_cons (fun _ _ h h' hk => zIR_s (zIR_s (zIR_s (zIR_s (zIR_s (zIR_s (zIR_s (zIR_s (zIR_s (zIR_s (zIR_e (by omega) (by omega) hk))))))))))) (zSub_cons (fun _ _ h h' hk => zIR_s (zIR_s (zIR_s (zIR_s (zIR_s (zIR_s (zIR_s (zIR_s (zIR_s (zIR_s (zIR_s (zIR_e (by omega) (by omega) hk)))))))))))) (zSub_cons (fun _ _ h h' hk => zIR_s (zIR_s (zIR_s (zIR_s (zIR_s (zIR_s (zIR_s (zIR_s (zIR_s (zIR_s (zIR_s (zIR_s (zIR_e (by omega) (by omega) hk))))))))))))) zSub_nil)))))))
        show ZW _ _ _ _ _ _ _ (84, [some (.ref 386), some (.int a0), some (.int x34)], [], M67)
        refine w_lo dX9_lawing_84 rfl rfl rfl rfl ?_
        refine w_ic dX9_lawing_85 zi_1 ?_
        refine w_iv dX9_lawing_86 rfl rfl (As := [.int 1]) rfl rfl hJ73.1.1 zs_386 (Nat.le_of_ble_eq_true rfl) ?_
        obtain ⟨P76, hp77, hb⟩ := hb
        replace hb : zHd _ := hb
        have hp77c : b_2328 (zi M67) (1 : Int32).toInt P76 := by rw [zt_1]; exact hp77
        refine ZV.imp (u_2328 1 (by have := zt_1; omega) (by have := zt_1; omega) hN hJ73.1 hp77c) ?_
        rintro _ ⟨M74, rfl, hJ75, hq78⟩
        replace hb : zHd _ := hb  (zi M74) (zi_fr hJ75.2) hq78
        have hJ80 := zJ_trans hJ73 hJ75 (zSub_cons (fun _ _ h h' hk => zIR_a (by omega) (by omega)) (zSub_cons (fun _ _ h h' hk => zIR_s (zIR_e (by omega) (by omega) hk)) (zSub_cons (fun _ _ h h' hk => zIR_s (zIR_s (zIR_e (by omega) (by omega) hk))) (zSub_cons (fun _ _ h h' hk => zIR_s (zIR_s (zIR_s (zIR_e (by omega) (by omega) hk)))) (zSub_cons (fun _ _ h h' hk => zIR_s (zIR_s (zIR_s (zIR_s (zIR_e (by omega) (by omega) hk))))) (zSub_cons (fun _ _ h h' hk => zIR_s (zIR_s (zIR_s (zIR_s (zIR_s (zIR_e (by omega) (by omega) hk)))))) (zSub_cons (fun _ _ h h' hk => zIR_s (zIR_s (zIR_s (zIR_s (zIR_s (zIR_s (zIR_e (by omega) (by omega) hk))))))) (zSub_cons (fun _ _ h h' hk => zIR_s (zIR_s (zIR_s (zIR_s (zIR_s (zIR_s (zIR_s (zIR_e (by omega) (by omega) hk)))))))) (zSub_cons (fun _ _ h h' hk => zIR_s (zIR_s (zIR_s (zIR_s (zIR_s (zIR_s (zIR_s (zIR_s (zIR_e (by omega) (by omega) hk))))))))) (zSub_cons (fun _ _ h h' hk => zIR_s (zIR_s (zIR_s (zIR_s (zIR_s (zIR_s (zIR_s (zIR_s (zIR_s (zIR_e (by omega) (by omega) hk)))))))))) (zSub_cons (fun _ _ h h' hk => zIR_s (zIR_s (zIR_s (zIR_s (zIR_s (zIR_s (zIR_s (zIR_s (zIR_s (zIR_s (zIR_e (by omega) (by omega) hk))))))))))) (zSub_cons (fun _ _ h h' hk => zIR_s (zIR_s (zIR_s (zIR_s (zIR_s (zIR_s (zIR_s (zIR_s (zIR_s (zIR_s (zIR_s (zIR_e (by omega) (by omega) hk)))))))))))) (zSub_cons (fun _ _ h h' hk => zIR_s (zIR_s (zIR_s (zIR_s (zIR_s (zIR_s (zIR_s (zIR_s (zIR_s (zIR_s (zIR_s (zIR_s (zIR_e (by omega) (by omega) hk))))))))))))) zSub_nil)))))))))))))
        show ZW _ _ _ _ _ _ _ (89, [some (.ref 386), some (.int a0), some (.int x34)], [], M74)
        refine w_lo dX9_lawing_89 rfl rfl rfl rfl ?_
        refine w_gf dX9_lawing_90 rfl hJ80.1.1 zs_386 (zr_386_31 hJ80.1) ?_
        refine w_lo dX9_lawing_93 rfl rfl rfl rfl ?_
        refine w_lo dX9_lawing_94 rfl rfl rfl rfl ?_
        refine w_gfi dX9_lawing_95 rfl hJ80.1 zs_386 (Nat.le_of_ble_eq_true rfl) zo_386_34 ?_
        intro x81 f82 h83 h84
        replace hb : zHd _ := hb x81.toInt (ziE f82) h83 h84
        refine w_isi dX9_lawing_98 hJ80 zs_406 (by omega) (by omega) zu_406 (by omega) (by omega) (zIR_a (by omega) (by omega)) ?_
        intro M85 hJ86 f87 hn88
        replace hb : zHd _ := hb (zi M85) (zi_zup hn88 f87 rfl rfl)
        refine w_lo dX9_lawing_99 rfl rfl rfl rfl ?_
        refine w_gfi dX9_lawing_100 rfl hJ86.1 zs_386 (Nat.le_of_ble_eq_true rfl) zo_386_8 ?_
        intro x90 f91 h92 h93
        replace hb : zHd _ := hb x90.toInt (ziE f91) h92 h93
        rcases Int.decEq x90.toInt (0 : Int) with h94 | h94
        · skip
          replace hb : zHd _ := hb.1 h94
          refine w_ine_t dX9_lawing_103 (t := 119) rfl (by omega) ?_
          refine w_en dX9_lawing_119 rfl ?_
          exact ⟨_, rfl, hJ86, hb⟩
        · skip
          replace hb : zHd _ := hb.2 h94
          refine w_ine_f dX9_lawing_103 (t := 119) rfl (by omega) ?_
          refine w_lo dX9_lawing_106 rfl rfl rfl rfl ?_
          refine w_gf dX9_lawing_107 rfl hJ86.1.1 zs_386 (zr_386_27 hJ86.1) ?_
          refine w_lo dX9_lawing_110 rfl rfl rfl rfl ?_
          have f95 := (hn88 (386) 35 (Or.inl (by omega))).trans ((hJ75.2 (386) 35 (zNI (by omega) (zNI_k (by decide) (by decide) (zNI_k (by decide) (by decide) (zNI_k (by decide) (by decide) (zNI_k (by decide) (by decide) (zNI_k (by decide) (by decide) (zNI_k (by decide) (by decide) (zNI_k (by decide) (by decide) (zNI_k (by decide) (by decide) (zNI_k (by decide) (by decide) (zNI_k (by decide) (by decide) (zNI_k (by decide) (by decide) (zNI_k (by decide) (by decide) zNI_nil)))))))))))))).trans ((hJ68.2 (386) 35 (zNI_k (by decide) (by decide) (zNI_k (by decide) (by decide) (zNI_k (by decide) (by decide) (zNI_k (by decide) (by decide) (zNI_k (by decide) (by decide) (zNI_k (by decide) (by decide) (zNI_k (by decide) (by decide) zNI_nil)))))))).trans ((hn65 (386) 35 (Or.inl (by omega))).trans ((hJ52.2 (386) 35 (zNI (by omega) (zNI_k (by decide) (by decide) (zNI_k (by decide) (by decide) (zNI_k (by decide) (by decide) (zNI_k (by decide) (by decide) (zNI_k (by decide) (by decide) (zNI_k (by decide) (by decide) (zNI_k (by decide) (by decide) (zNI_k (by decide) (by decide) (zNI_k (by decide) (by decide) (zNI_k (by decide) (by decide) (zNI_k (by decide) (by decide) (zNI_k (by decide) (by decide) zNI_nil)))))))))))))).trans ((hn49 (386) 35 (Or.inl (by omega))).trans ((hn40 (386) 35 (Or.inl (by omega))).trans (f27)))))))
          refine w_gf dX9_lawing_111 rfl hJ86.1.1 zs_386 f95 ?_
          refine w_pu dX9_lawing_114 rfl rfl ?_
          have f99 := (hn88 (402) (x1 : Int32).toInt.toNat (Or.inl (by omega))).trans ((hJ75.2 (402) (x1 : Int32).toInt.toNat (zNI (by omega) (zNI (by omega) (zNI (by omega) (zNI (by omega) (zNI (by omega) (zNI (by omega) (zNI (by omega) (zNI (by omega) (zNI (by omega) (zNI (by omega) (zNI (by omega) (zNI (by omega) (zNI (by omega) zNI_nil)))))))))))))).trans ((hJ68.2 (402) (x1 : Int32).toInt.toNat (zNI (by omega) (zNI (by omega) (zNI (by omega) (zNI (by omega) (zNI (by omega) (zNI (by omega) (zNI (by omega) zNI_nil)))))))).trans ((hn65 (402) (x1 : Int32).toInt.toNat (Or.inl (by omega))).trans ((hJ52.2 (402) (x1 : Int32).toInt.toNat (zNI (by omega) (zNI (by omega) (zNI (by omega) (zNI (by omega) (zNI (by omega) (zNI (by omega) (zNI (by omega) (zNI (by omega) (zNI (by omega) (zNI (by omega) (zNI (by omega) (zNI (by omega) (zNI (by omega) zNI_nil)))))))))))))).trans ((hn49 (402) (x1 : Int32).toInt.toNat (Or.inl (by omega))).trans ((hn40 (402) (x1 : Int32).toInt.toNat (Or.inl (by omega))).trans (f33)))))))
          refine w_ia dX9_lawing_115 hJ86.1.1 zs_402 (znat (by omega)) f99 ?_
          refine w_ic dX9_lawing_116 zi_1 ?_
          refine w_add dX9_lawing_117 (by have := zt_1; omega) ?_
          intro x100 h101
          have := zt_1
          replace hb : zHd _ := hb x100.toInt (by have := zt_1; omega)
          refine w_isi dX9_lawing_118 hJ86 zs_402 (by omega) (by omega) zu_402 (by omega) (by omega) (zIR_a (by omega) (by omega)) ?_
          intro M102 hJ103 f104 hn105
          replace hb : zHd _ := hb (zi M102) (zi_zup hn105 f104 rfl rfl)
          refine w_en dX9_lawing_119 rfl ?_
          exact ⟨_, rfl, hJ103, hb⟩
  · skip
    replace hb : zHd _ := hb.2 h9
    refine w_cne_f dX9_lawing_12 (t := 19) rfl (by have := zt_8; omega) ?_
    refine w_ic dX9_lawing_15 zi_1 ?_
    refine w_gt dX9_lawing_16 (t := 20) rfl ?_
    refine w_iv dX9_lawing_20 rfl rfl (As := [.int 1]) rfl rfl hJ0.1.1 zs_386 (Nat.le_of_ble_eq_true rfl) ?_
    refine ZV.of (ini := false) rfl (Nat.le_of_ble_eq_true rfl) (by decide +kernel) ?_
    show ZW _ _ _ _ _ _ _ (0, [some (.ref 386), some (.int 1)], [], M0)
    refine w_lo dX9_counts_0 rfl rfl rfl rfl ?_
    refine w_gfi dX9_counts_1 rfl hJ0.1 zs_386 (Nat.le_of_ble_eq_true rfl) zo_386_8 ?_
    intro x107 f108 h109 h110
    replace hb : zHd _ := hb x107.toInt (ziE f108) h109 h110
    rcases Int.decEq x107.toInt (0 : Int) with h111 | h111
    · skip
      replace hb : zHd _ := hb.1 h111
      refine w_ine_t dX9_counts_4 (t := 20) rfl (by omega) ?_
      refine w_lo dX9_counts_20 rfl rfl rfl rfl ?_
      refine w_gf dX9_counts_21 rfl hJ0.1.1 zs_386 f108 ?_
      refine w_ine_t dX9_counts_24 (t := 31) rfl (by omega) ?_
      refine w_lo dX9_counts_31 rfl rfl rfl rfl ?_
      refine w_gf dX9_counts_32 rfl hJ0.1.1 zs_386 f108 ?_
      refine w_ine_t dX9_counts_35 (t := 42) rfl (by omega) ?_
      refine w_ic dX9_counts_42 zi_0 ?_
      refine w_en dX9_counts_43 rfl ?_
      show ZW _ _ _ _ _ _ _ (23, [some (.ref 386), some (.int a0), none], [.int 0], M0)
      refine w_ine_f dX9_lawing_23 (t := 27) rfl (by have := zt_0; omega) ?_
      refine w_en dX9_lawing_26 rfl ?_
      exact ⟨_, rfl, hJ0, hb⟩
    · skip
      replace hb : zHd _ := hb.2 h111
      refine w_ine_f dX9_counts_4 (t := 20) rfl (by omega) ?_
      refine w_lo dX9_counts_7 rfl rfl rfl rfl ?_
      refine w_ieq_f dX9_counts_8 (t := 20) rfl (by have := zt_1; omega) ?_
      refine w_lo dX9_counts_11 rfl rfl rfl rfl ?_
      refine w_ic dX9_counts_12 zi_5 ?_
      refine w_lo dX9_counts_13 rfl rfl rfl rfl ?_
      refine w_gfi dX9_counts_14 rfl hJ0.1 zs_386 (Nat.le_of_ble_eq_true rfl) zo_386_4 ?_
      intro x112 f113 h114 h115
      replace hb : zHd _ := hb x112.toInt (ziE f113) h114 h115
      refine w_iv dX9_counts_17 rfl rfl (As := [.int 5, .int x112]) rfl rfl hJ0.1.1 zs_386 (Nat.le_of_ble_eq_true rfl) ?_
      refine ZV.of (ini := false) rfl (Nat.le_of_ble_eq_true rfl) (by decide +kernel) ?_
      show ZW _ _ _ _ _ _ _ (0, [some (.ref 386), some (.int 5), some (.int x112)], [], M0)
      refine w_lo dX9_blame_0 rfl rfl rfl rfl ?_
      refine w_gf dX9_blame_1 rfl hJ0.1.1 zs_386 f108 ?_
      refine w_ile_t dX9_blame_4 (t := 8) rfl (by omega) ?_
      refine w_lo dX9_blame_8 rfl rfl rfl rfl ?_
      refine w_lo dX9_blame_9 rfl rfl rfl rfl ?_
      refine w_pfi dX9_blame_10 rfl hJ0 zs_386 (Nat.le_of_ble_eq_true rfl) zo_386_8 (by have := zt_5; omega) (by have := zt_5; omega) (zIR_s (zIR_s (zIR_s (zIR_s (zIR_s (zIR_s (zIR_s (zIR_s (zIR_s (zIR_s (zIR_s (zIR_k (by omega) (by omega))))))))))))) rfl rfl rfl ?_
      intro M116 hJ117 f118 hn119
      replace hb : zHd _ := hb (zi M116) (zi_zup hn119 f118 rfl zt_5)
      refine w_lo dX9_blame_13 rfl rfl rfl rfl ?_
      refine w_lo dX9_blame_14 rfl rfl rfl rfl ?_
      refine w_pfi dX9_blame_15 rfl hJ117 zs_386 (Nat.le_of_ble_eq_true rfl) zo_386_9 (by omega) (by omega) (zIR_s (zIR_s (zIR_s (zIR_s (zIR_s (zIR_s (zIR_s (zIR_s (zIR_s (zIR_s (zIR_s (zIR_s (zIR_k (by omega) (by omega)))))))))))))) rfl rfl rfl ?_
      intro M121 hJ122 f123 hn124
      replace hb : zHd _ := hb (zi M121) (zi_zup hn124 f123 rfl rfl)
      refine w_en dX9_blame_18 rfl ?_
      show ZW _ _ _ _ _ _ _ (20, [some (.ref 386), some (.int 1)], [], M121)
      refine w_lo dX9_counts_20 rfl rfl rfl rfl ?_
      have f126 := (hn124 (386) 8 (Or.inr (by decide))).trans (f118)
      refine w_gf dX9_counts_21 rfl hJ122.1.1 zs_386 f126 ?_
      refine w_ine_t dX9_counts_24 (t := 31) rfl (by have := zt_5; omega) ?_
      refine w_lo dX9_counts_31 rfl rfl rfl rfl ?_
      refine w_gf dX9_counts_32 rfl hJ122.1.1 zs_386 f126 ?_
      refine w_ine_t dX9_counts_35 (t := 42) rfl (by have := zt_5; omega) ?_
      refine w_ic dX9_counts_42 zi_0 ?_
      refine w_en dX9_counts_43 rfl ?_
      show ZW _ _ _ _ _ _ _ (23, [some (.ref 386), some (.int a0), none], [.int 0], M121)
      refine w_ine_f dX9_lawing_23 (t := 27) rfl (by have := zt_0; omega) ?_
      refine w_en dX9_lawing_26 rfl ?_
      exact ⟨_, rfl, hJ122, hb⟩
set_option maxHeartbeats 20000000 in
set_option maxRecDepth 100000 in
theorem u_2314 {X : List Int32} {d N : Nat} {M0 : zM}  (hN : N ≤ 600) (hB0 : zB N M0) {Q : zF → Prop} (hb : b_2314 (zi M0) Q) : ZV X (d + 7) 2314 [.ref 386] M0 (zRV N [(388, 415, 1000), (386, 387, 3), (386, 387, 34), (386, 387, 4), (386, 387, 41), (386, 387, 42), (386, 387, 44), (386, 387, 45), (386, 387, 5), (386, 387, 6), (386, 387, 7), (386, 387, 8), (386, 387, 9)] M0 (fun M' => Q (zi M'))) := by
  have hJ0 : zJ N [(388, 415, 1000), (386, 387, 3), (386, 387, 34), (386, 387, 4), (386, 387, 41), (386, 387, 42), (386, 387, 44), (386, 387, 45), (386, 387, 5), (386, 387, 6), (386, 387, 7), (386, 387, 8), (386, 387, 9)] M0 M0 := zJ_refl hB0
  refine ZV.of (ini := false) rfl (Nat.le_of_ble_eq_true rfl) (by decide +kernel) ?_
  unfold b_2314 at hb
  replace hb : zHd _ := hb
  show ZW _ _ _ _ _ _ _ (0, [some (.ref 386)], [], M0)
  refine w_lo dX9_statement_0 rfl rfl rfl rfl ?_
  refine w_me (st' := [.long (6451065 : Int64), .ref 386]) dX9_statement_1 rfl rfl rfl rfl rfl ?_
  refine w_iv dX9_statement_4 rfl rfl (As := [.long (6451065 : Int64)]) rfl rfl hJ0.1.1 zs_386 (Nat.le_of_ble_eq_true rfl) ?_
  refine ZV.of (ini := false) rfl (Nat.le_of_ble_eq_true rfl) (by decide +kernel) ?_
  show ZW _ _ _ _ _ _ _ (0, [some (.ref 386), some (.long (6451065 : Int64)), none], [], M0)
  refine w_lo dX9_isWord_0 rfl rfl rfl rfl ?_
  refine w_gfi dX9_isWord_1 rfl hJ0.1 zs_386 (Nat.le_of_ble_eq_true rfl) zo_386_3 ?_
  intro x1 f2 h3 h4
  replace hb : zHd _ := hb x1.toInt (ziE f2) h3 h4
  refine w_ic dX9_isWord_4 zi_1 ?_
  rcases Int.decEq x1.toInt (1 : Int) with h5 | h5
  · skip
    replace hb : zHd _ := hb.1 h5
    refine w_cne_t dX9_isWord_5 (t := 21) rfl (by have := zt_1; omega) ?_
    refine w_ic dX9_isWord_21 zi_0 ?_
    refine w_en dX9_isWord_22 rfl ?_
    show ZW _ _ _ _ _ _ _ (7, [some (.ref 386)], [.int 0], M0)
    refine w_ieq_t dX9_statement_7 (t := 17) rfl (by have := zt_0; omega) ?_
    refine w_lo dX9_statement_17 rfl rfl rfl rfl ?_
    refine w_me (st' := [.long (495739560811 : Int64), .ref 386]) dX9_statement_18 rfl rfl rfl rfl rfl ?_
    refine w_iv dX9_statement_21 rfl rfl (As := [.long (495739560811 : Int64)]) rfl rfl hJ0.1.1 zs_386 (Nat.le_of_ble_eq_true rfl) ?_
    refine ZV.of (ini := false) rfl (Nat.le_of_ble_eq_true rfl) (by decide +kernel) ?_
    show ZW _ _ _ _ _ _ _ (0, [some (.ref 386), some (.long (495739560811 : Int64)), none], [], M0)
    refine w_lo dX9_isWord_0 rfl rfl rfl rfl ?_
    refine w_gf dX9_isWord_1 rfl hJ0.1.1 zs_386 f2 ?_
    refine w_ic dX9_isWord_4 zi_1 ?_
    rcases Int.decEq x1.toInt (1 : Int) with h6 | h6
    · skip
      replace hb : zHd _ := hb.1 h6
      refine w_cne_t dX9_isWord_5 (t := 21) rfl (by have := zt_1; omega) ?_
      refine w_ic dX9_isWord_21 zi_0 ?_
      refine w_en dX9_isWord_22 rfl ?_
      show ZW _ _ _ _ _ _ _ (24, [some (.ref 386)], [.int 0], M0)
      refine w_ieq_t dX9_statement_24 (t := 34) rfl (by have := zt_0; omega) ?_
      refine w_lo dX9_statement_34 rfl rfl rfl rfl ?_
      refine w_me (st' := [.long (431415976301 : Int64), .ref 386]) dX9_statement_35 rfl rfl rfl rfl rfl ?_
      refine w_iv dX9_statement_38 rfl rfl (As := [.long (431415976301 : Int64)]) rfl rfl hJ0.1.1 zs_386 (Nat.le_of_ble_eq_true rfl) ?_
      refine ZV.of (ini := false) rfl (Nat.le_of_ble_eq_true rfl) (by decide +kernel) ?_
      show ZW _ _ _ _ _ _ _ (0, [some (.ref 386), some (.long (431415976301 : Int64)), none], [], M0)
      refine w_lo dX9_isWord_0 rfl rfl rfl rfl ?_
      refine w_gf dX9_isWord_1 rfl hJ0.1.1 zs_386 f2 ?_
      refine w_ic dX9_isWord_4 zi_1 ?_
      rcases Int.decEq x1.toInt (1 : Int) with h7 | h7
      · skip
        replace hb : zHd _ := hb.1 h7
        refine w_cne_t dX9_isWord_5 (t := 21) rfl (by have := zt_1; omega) ?_
        refine w_ic dX9_isWord_21 zi_0 ?_
        refine w_en dX9_isWord_22 rfl ?_
        show ZW _ _ _ _ _ _ _ (41, [some (.ref 386)], [.int 0], M0)
        refine w_ieq_t dX9_statement_41 (t := 51) rfl (by have := zt_0; omega) ?_
        refine w_lo dX9_statement_51 rfl rfl rfl rfl ?_
        refine w_me (st' := [.long (1885434739 : Int64), .ref 386]) dX9_statement_52 rfl rfl rfl rfl rfl ?_
        refine w_iv dX9_statement_55 rfl rfl (As := [.long (1885434739 : Int64)]) rfl rfl hJ0.1.1 zs_386 (Nat.le_of_ble_eq_true rfl) ?_
        refine ZV.of (ini := false) rfl (Nat.le_of_ble_eq_true rfl) (by decide +kernel) ?_
        show ZW _ _ _ _ _ _ _ (0, [some (.ref 386), some (.long (1885434739 : Int64)), none], [], M0)
        refine w_lo dX9_isWord_0 rfl rfl rfl rfl ?_
        refine w_gf dX9_isWord_1 rfl hJ0.1.1 zs_386 f2 ?_
        refine w_ic dX9_isWord_4 zi_1 ?_
        rcases Int.decEq x1.toInt (1 : Int) with h8 | h8
        · skip
          replace hb : zHd _ := hb.1 h8
          refine w_cne_t dX9_isWord_5 (t := 21) rfl (by have := zt_1; omega) ?_
          refine w_ic dX9_isWord_21 zi_0 ?_
          refine w_en dX9_isWord_22 rfl ?_
          show ZW _ _ _ _ _ _ _ (58, [some (.ref 386)], [.int 0], M0)
          refine w_ieq_t dX9_statement_58 (t := 69) rfl (by have := zt_0; omega) ?_
          refine w_lo dX9_statement_69 rfl rfl rfl rfl ?_
          refine w_me (st' := [.long (1684366704 : Int64), .ref 386]) dX9_statement_70 rfl rfl rfl rfl rfl ?_
          refine w_iv dX9_statement_73 rfl rfl (As := [.long (1684366704 : Int64)]) rfl rfl hJ0.1.1 zs_386 (Nat.le_of_ble_eq_true rfl) ?_
          refine ZV.of (ini := false) rfl (Nat.le_of_ble_eq_true rfl) (by decide +kernel) ?_
          show ZW _ _ _ _ _ _ _ (0, [some (.ref 386), some (.long (1684366704 : Int64)), none], [], M0)
          refine w_lo dX9_isWord_0 rfl rfl rfl rfl ?_
          refine w_gf dX9_isWord_1 rfl hJ0.1.1 zs_386 f2 ?_
          refine w_ic dX9_isWord_4 zi_1 ?_
          rcases Int.decEq x1.toInt (1 : Int) with h9 | h9
          · skip
            replace hb : zHd _ := hb.1 h9
            refine w_cne_t dX9_isWord_5 (t := 21) rfl (by have := zt_1; omega) ?_
            refine w_ic dX9_isWord_21 zi_0 ?_
            refine w_en dX9_isWord_22 rfl ?_
            show ZW _ _ _ _ _ _ _ (76, [some (.ref 386)], [.int 0], M0)
            refine w_ieq_t dX9_statement_76 (t := 87) rfl (by have := zt_0; omega) ?_
            refine w_lo dX9_statement_87 rfl rfl rfl rfl ?_
            refine w_ic dX9_statement_88 zi_1 ?_
            refine w_lo dX9_statement_89 rfl rfl rfl rfl ?_
            refine w_gfi dX9_statement_90 rfl hJ0.1 zs_386 (Nat.le_of_ble_eq_true rfl) zo_386_4 ?_
            intro x10 f11 h12 h13
            replace hb : zHd _ := hb x10.toInt (ziE f11) h12 h13
            refine w_iv dX9_statement_93 rfl rfl (As := [.int 1, .int x10]) rfl rfl hJ0.1.1 zs_386 (Nat.le_of_ble_eq_true rfl) ?_
            refine ZV.of (ini := false) rfl (Nat.le_of_ble_eq_true rfl) (by decide +kernel) ?_
            show ZW _ _ _ _ _ _ _ (0, [some (.ref 386), some (.int 1), some (.int x10)], [], M0)
            refine w_lo dX9_blame_0 rfl rfl rfl rfl ?_
            refine w_gfi dX9_blame_1 rfl hJ0.1 zs_386 (Nat.le_of_ble_eq_true rfl) zo_386_8 ?_
            intro x14 f15 h16 h17
            replace hb : zHd _ := hb x14.toInt (ziE f15) h16 h17
            rcases zcut (0 : Int) x14.toInt with h18 | h18
            · skip
              replace hb : zHd _ := hb.1 h18
              refine w_ile_f dX9_blame_4 (t := 8) rfl (by omega) ?_
              refine w_en dX9_blame_7 rfl ?_
              show ZW _ _ _ _ _ _ _ (96, [some (.ref 386)], [], M0)
              refine w_en dX9_statement_96 rfl ?_
              exact ⟨_, rfl, hJ0, hb⟩
            · skip
              replace hb : zHd _ := hb.2 h18
              refine w_ile_t dX9_blame_4 (t := 8) rfl (by omega) ?_
              refine w_lo dX9_blame_8 rfl rfl rfl rfl ?_
              refine w_lo dX9_blame_9 rfl rfl rfl rfl ?_
              refine w_pfi dX9_blame_10 rfl hJ0 zs_386 (Nat.le_of_ble_eq_true rfl) zo_386_8 (by have := zt_1; omega) (by have := zt_1; omega) (zIR_s (zIR_s (zIR_s (zIR_s (zIR_s (zIR_s (zIR_s (zIR_s (zIR_s (zIR_s (zIR_s (zIR_k (by omega) (by omega))))))))))))) rfl rfl rfl ?_
              intro M19 hJ20 f21 hn22
              replace hb : zHd _ := hb (zi M19) (zi_zup hn22 f21 rfl zt_1)
              refine w_lo dX9_blame_13 rfl rfl rfl rfl ?_
              refine w_lo dX9_blame_14 rfl rfl rfl rfl ?_
              refine w_pfi dX9_blame_15 rfl hJ20 zs_386 (Nat.le_of_ble_eq_true rfl) zo_386_9 (by omega) (by omega) (zIR_s (zIR_s (zIR_s (zIR_s (zIR_s (zIR_s (zIR_s (zIR_s (zIR_s (zIR_s (zIR_s (zIR_s (zIR_k (by omega) (by omega)))))))))))))) rfl rfl rfl ?_
              intro M24 hJ25 f26 hn27
              replace hb : zHd _ := hb (zi M24) (zi_zup hn27 f26 rfl rfl)
              refine w_en dX9_blame_18 rfl ?_
              show ZW _ _ _ _ _ _ _ (96, [some (.ref 386)], [], M24)
              refine w_en dX9_statement_96 rfl ?_
              exact ⟨_, rfl, hJ25, hb⟩
          · skip
            replace hb : zHd _ := hb.2 h9
            refine w_cne_f dX9_isWord_5 (t := 21) rfl (by have := zt_1; omega) ?_
            refine w_lo dX9_isWord_8 rfl rfl rfl rfl ?_
            refine w_gfl dX9_isWord_9 rfl hJ0.1 zs_386 (Nat.le_of_ble_eq_true rfl) zo_386_7 ?_
            intro y32 f29 h30 h31
            replace hb : zHd _ := hb y32.toInt (ziL f29)
            refine w_lo dX9_isWord_12 rfl rfl rfl rfl ?_
            refine w_lcm dX9_isWord_13 ?_
            intro x33 h34
            have := ztl_1684366704
            replace hb : zHd _ := hb x33.toInt (by omega)
            rcases Int.decEq x33.toInt (0 : Int) with h35 | h35
            · skip
              replace hb : zHd _ := hb.1 h35
              refine w_ine_t dX9_isWord_14 (t := 21) rfl (by omega) ?_
              refine w_ic dX9_isWord_21 zi_0 ?_
              refine w_en dX9_isWord_22 rfl ?_
              show ZW _ _ _ _ _ _ _ (76, [some (.ref 386)], [.int 0], M0)
              refine w_ieq_t dX9_statement_76 (t := 87) rfl (by have := zt_0; omega) ?_
              refine w_lo dX9_statement_87 rfl rfl rfl rfl ?_
              refine w_ic dX9_statement_88 zi_1 ?_
              refine w_lo dX9_statement_89 rfl rfl rfl rfl ?_
              refine w_gfi dX9_statement_90 rfl hJ0.1 zs_386 (Nat.le_of_ble_eq_true rfl) zo_386_4 ?_
              intro x36 f37 h38 h39
              replace hb : zHd _ := hb x36.toInt (ziE f37) h38 h39
              refine w_iv dX9_statement_93 rfl rfl (As := [.int 1, .int x36]) rfl rfl hJ0.1.1 zs_386 (Nat.le_of_ble_eq_true rfl) ?_
              refine ZV.of (ini := false) rfl (Nat.le_of_ble_eq_true rfl) (by decide +kernel) ?_
              show ZW _ _ _ _ _ _ _ (0, [some (.ref 386), some (.int 1), some (.int x36)], [], M0)
              refine w_lo dX9_blame_0 rfl rfl rfl rfl ?_
              refine w_gfi dX9_blame_1 rfl hJ0.1 zs_386 (Nat.le_of_ble_eq_true rfl) zo_386_8 ?_
              intro x40 f41 h42 h43
              replace hb : zHd _ := hb x40.toInt (ziE f41) h42 h43
              rcases zcut (0 : Int) x40.toInt with h44 | h44
              · skip
                replace hb : zHd _ := hb.1 h44
                refine w_ile_f dX9_blame_4 (t := 8) rfl (by omega) ?_
                refine w_en dX9_blame_7 rfl ?_
                show ZW _ _ _ _ _ _ _ (96, [some (.ref 386)], [], M0)
                refine w_en dX9_statement_96 rfl ?_
                exact ⟨_, rfl, hJ0, hb⟩
              · skip
                replace hb : zHd _ := hb.2 h44
                refine w_ile_t dX9_blame_4 (t := 8) rfl (by omega) ?_
                refine w_lo dX9_blame_8 rfl rfl rfl rfl ?_
                refine w_lo dX9_blame_9 rfl rfl rfl rfl ?_
                refine w_pfi dX9_blame_10 rfl hJ0 zs_386 (Nat.le_of_ble_eq_true rfl) zo_386_8 (by have := zt_1; omega) (by have := zt_1; omega) (zIR_s (zIR_s (zIR_s (zIR_s (zIR_s (zIR_s (zIR_s (zIR_s (zIR_s (zIR_s (zIR_s (zIR_k (by omega) (by omega))))))))))))) rfl rfl rfl ?_
                intro M45 hJ46 f47 hn48
                replace hb : zHd _ := hb (zi M45) (zi_zup hn48 f47 rfl zt_1)
                refine w_lo dX9_blame_13 rfl rfl rfl rfl ?_
                refine w_lo dX9_blame_14 rfl rfl rfl rfl ?_
                refine w_pfi dX9_blame_15 rfl hJ46 zs_386 (Nat.le_of_ble_eq_true rfl) zo_386_9 (by omega) (by omega) (zIR_s (zIR_s (zIR_s (zIR_s (zIR_s (zIR_s (zIR_s (zIR_s (zIR_s (zIR_s (zIR_s (zIR_s (zIR_k (by omega) (by omega)))))))))))))) rfl rfl rfl ?_
                intro M50 hJ51 f52 hn53
                replace hb : zHd _ := hb (zi M50) (zi_zup hn53 f52 rfl rfl)
                refine w_en dX9_blame_18 rfl ?_
                show ZW _ _ _ _ _ _ _ (96, [some (.ref 386)], [], M50)
                refine w_en dX9_statement_96 rfl ?_
                exact ⟨_, rfl, hJ51, hb⟩
            · skip
              replace hb : zHd _ := hb.2 h35
              refine w_ine_f dX9_isWord_14 (t := 21) rfl (by omega) ?_
              refine w_ic dX9_isWord_17 zi_1 ?_
              refine w_gt dX9_isWord_18 (t := 22) rfl ?_
              refine w_en dX9_isWord_22 rfl ?_
              show ZW _ _ _ _ _ _ _ (76, [some (.ref 386)], [.int 1], M0)
              refine w_ieq_f dX9_statement_76 (t := 87) rfl (by have := zt_1; omega) ?_
              refine w_lo dX9_statement_79 rfl rfl rfl rfl ?_
              refine w_ic dX9_statement_80 zi_1 ?_
              refine w_iv dX9_statement_81 rfl rfl (As := [.int 1]) rfl rfl hJ0.1.1 zs_386 (Nat.le_of_ble_eq_true rfl) ?_
              obtain ⟨P57, hp58, hb⟩ := hb
              replace hb : zHd _ := hb
              have hp58c : b_2327 (zi M0) (1 : Int32).toInt P57 := by rw [zt_1]; exact hp58
              refine ZV.imp (u_2327 1 hN hJ0.1 hp58c) ?_
              rintro _ ⟨M55, rfl, hJ56, hq59⟩
              replace hb : zHd _ := hb  (zi M55) (zi_fr hJ56.2) hq59
              have hJ61 := zJ_trans hJ0 hJ56 (zSub_cons (fun _ _ h h' hk => zIR_a (by omega) (by omega)) (zSub_cons (fun _ _ h h' hk => zIR_s (zIR_e (by omega) (by omega) hk)) (zSub_cons (fun _ _ h h' hk => zIR_s (zIR_s (zIR_e (by omega) (by omega) hk))) (zSub_cons (fun _ _ h h' hk => zIR_s (zIR_s (zIR_s (zIR_e (by omega) (by omega) hk)))) (zSub_cons (fun _ _ h h' hk => zIR_s (zIR_s (zIR_s (zIR_s (zIR_e (by omega) (by omega) hk))))) (zSub_cons (fun _ _ h h' hk => zIR_s (zIR_s (zIR_s (zIR_s (zIR_s (zIR_e (by omega) (by omega) hk)))))) (zSub_cons (fun _ _ h h' hk => zIR_s (zIR_s (zIR_s (zIR_s (zIR_s (zIR_s (zIR_e (by omega) (by omega) hk))))))) (zSub_cons (fun _ _ h h' hk => zIR_s (zIR_s (zIR_s (zIR_s (zIR_s (zIR_s (zIR_s (zIR_e (by omega) (by omega) hk)))))))) (zSub_cons (fun _ _ h h' hk => zIR_s (zIR_s (zIR_s (zIR_s (zIR_s (zIR_s (zIR_s (zIR_s (zIR_e (by omega) (by omega) hk))))))))) (zSub_cons (fun _ _ h h' hk => zIR_s (zIR_s (zIR_s (zIR_s (zIR_s (zIR_s (zIR_s (zIR_s (zIR_s (zIR_e (by omega) (by omega) hk)))))))))) (zSub_cons (fun _ _ h h' hk => zIR_s (zIR_s (zIR_s (zIR_s (zIR_s (zIR_s (zIR_s (zIR_s (zIR_s (zIR_s (zIR_e (by omega) (by omega) hk))))))))))) (zSub_cons (fun _ _ h h' hk => zIR_s (zIR_s (zIR_s (zIR_s (zIR_s (zIR_s (zIR_s (zIR_s (zIR_s (zIR_s (zIR_s (zIR_e (by omega) (by omega) hk)))))))))))) (zSub_cons (fun _ _ h h' hk => zIR_s (zIR_s (zIR_s (zIR_s (zIR_s (zIR_s (zIR_s (zIR_s (zIR_s (zIR_s (zIR_s (zIR_s (zIR_e (by omega) (by omega) hk))))))))))))) zSub_nil)))))))))))))
              show ZW _ _ _ _ _ _ _ (84, [some (.ref 386)], [], M55)
              refine w_gt dX9_statement_84 (t := 96) rfl ?_
              refine w_en dX9_statement_96 rfl ?_
              exact ⟨_, rfl, hJ61, hb⟩
        · skip
          replace hb : zHd _ := hb.2 h8
          refine w_cne_f dX9_isWord_5 (t := 21) rfl (by have := zt_1; omega) ?_
          refine w_lo dX9_isWord_8 rfl rfl rfl rfl ?_
          refine w_gfl dX9_isWord_9 rfl hJ0.1 zs_386 (Nat.le_of_ble_eq_true rfl) zo_386_7 ?_
          intro y65 f62 h63 h64
          replace hb : zHd _ := hb y65.toInt (ziL f62)
          refine w_lo dX9_isWord_12 rfl rfl rfl rfl ?_
          refine w_lcm dX9_isWord_13 ?_
          intro x66 h67
          have := ztl_1885434739
          replace hb : zHd _ := hb x66.toInt (by omega)
          rcases Int.decEq x66.toInt (0 : Int) with h68 | h68
          · skip
            replace hb : zHd _ := hb.1 h68
            refine w_ine_t dX9_isWord_14 (t := 21) rfl (by omega) ?_
            refine w_ic dX9_isWord_21 zi_0 ?_
            refine w_en dX9_isWord_22 rfl ?_
            show ZW _ _ _ _ _ _ _ (58, [some (.ref 386)], [.int 0], M0)
            refine w_ieq_t dX9_statement_58 (t := 69) rfl (by have := zt_0; omega) ?_
            refine w_lo dX9_statement_69 rfl rfl rfl rfl ?_
            refine w_me (st' := [.long (1684366704 : Int64), .ref 386]) dX9_statement_70 rfl rfl rfl rfl rfl ?_
            refine w_iv dX9_statement_73 rfl rfl (As := [.long (1684366704 : Int64)]) rfl rfl hJ0.1.1 zs_386 (Nat.le_of_ble_eq_true rfl) ?_
            refine ZV.of (ini := false) rfl (Nat.le_of_ble_eq_true rfl) (by decide +kernel) ?_
            show ZW _ _ _ _ _ _ _ (0, [some (.ref 386), some (.long (1684366704 : Int64)), none], [], M0)
            refine w_lo dX9_isWord_0 rfl rfl rfl rfl ?_
            refine w_gf dX9_isWord_1 rfl hJ0.1.1 zs_386 f2 ?_
            refine w_ic dX9_isWord_4 zi_1 ?_
            refine w_cne_f dX9_isWord_5 (t := 21) rfl (by have := zt_1; omega) ?_
            refine w_lo dX9_isWord_8 rfl rfl rfl rfl ?_
            refine w_gf dX9_isWord_9 rfl hJ0.1.1 zs_386 f62 ?_
            refine w_lo dX9_isWord_12 rfl rfl rfl rfl ?_
            refine w_lcm dX9_isWord_13 ?_
            intro x69 h70
            have := ztl_1684366704
            replace hb : zHd _ := hb x69.toInt (by omega)
            rcases Int.decEq x69.toInt (0 : Int) with h71 | h71
            · skip
              replace hb : zHd _ := hb.1 h71
              refine w_ine_t dX9_isWord_14 (t := 21) rfl (by omega) ?_
              refine w_ic dX9_isWord_21 zi_0 ?_
              refine w_en dX9_isWord_22 rfl ?_
              show ZW _ _ _ _ _ _ _ (76, [some (.ref 386)], [.int 0], M0)
              refine w_ieq_t dX9_statement_76 (t := 87) rfl (by have := zt_0; omega) ?_
              refine w_lo dX9_statement_87 rfl rfl rfl rfl ?_
              refine w_ic dX9_statement_88 zi_1 ?_
              refine w_lo dX9_statement_89 rfl rfl rfl rfl ?_
              refine w_gfi dX9_statement_90 rfl hJ0.1 zs_386 (Nat.le_of_ble_eq_true rfl) zo_386_4 ?_
              intro x72 f73 h74 h75
              replace hb : zHd _ := hb x72.toInt (ziE f73) h74 h75
              refine w_iv dX9_statement_93 rfl rfl (As := [.int 1, .int x72]) rfl rfl hJ0.1.1 zs_386 (Nat.le_of_ble_eq_true rfl) ?_
              refine ZV.of (ini := false) rfl (Nat.le_of_ble_eq_true rfl) (by decide +kernel) ?_
              show ZW _ _ _ _ _ _ _ (0, [some (.ref 386), some (.int 1), some (.int x72)], [], M0)
              refine w_lo dX9_blame_0 rfl rfl rfl rfl ?_
              refine w_gfi dX9_blame_1 rfl hJ0.1 zs_386 (Nat.le_of_ble_eq_true rfl) zo_386_8 ?_
              intro x76 f77 h78 h79
              replace hb : zHd _ := hb x76.toInt (ziE f77) h78 h79
              rcases zcut (0 : Int) x76.toInt with h80 | h80
              · skip
                replace hb : zHd _ := hb.1 h80
                refine w_ile_f dX9_blame_4 (t := 8) rfl (by omega) ?_
                refine w_en dX9_blame_7 rfl ?_
                show ZW _ _ _ _ _ _ _ (96, [some (.ref 386)], [], M0)
                refine w_en dX9_statement_96 rfl ?_
                exact ⟨_, rfl, hJ0, hb⟩
              · skip
                replace hb : zHd _ := hb.2 h80
                refine w_ile_t dX9_blame_4 (t := 8) rfl (by omega) ?_
                refine w_lo dX9_blame_8 rfl rfl rfl rfl ?_
                refine w_lo dX9_blame_9 rfl rfl rfl rfl ?_
                refine w_pfi dX9_blame_10 rfl hJ0 zs_386 (Nat.le_of_ble_eq_true rfl) zo_386_8 (by have := zt_1; omega) (by have := zt_1; omega) (zIR_s (zIR_s (zIR_s (zIR_s (zIR_s (zIR_s (zIR_s (zIR_s (zIR_s (zIR_s (zIR_s (zIR_k (by omega) (by omega))))))))))))) rfl rfl rfl ?_
                intro M81 hJ82 f83 hn84
                replace hb : zHd _ := hb (zi M81) (zi_zup hn84 f83 rfl zt_1)
                refine w_lo dX9_blame_13 rfl rfl rfl rfl ?_
                refine w_lo dX9_blame_14 rfl rfl rfl rfl ?_
                refine w_pfi dX9_blame_15 rfl hJ82 zs_386 (Nat.le_of_ble_eq_true rfl) zo_386_9 (by omega) (by omega) (zIR_s (zIR_s (zIR_s (zIR_s (zIR_s (zIR_s (zIR_s (zIR_s (zIR_s (zIR_s (zIR_s (zIR_s (zIR_k (by omega) (by omega)))))))))))))) rfl rfl rfl ?_
                intro M86 hJ87 f88 hn89
                replace hb : zHd _ := hb (zi M86) (zi_zup hn89 f88 rfl rfl)
                refine w_en dX9_blame_18 rfl ?_
                show ZW _ _ _ _ _ _ _ (96, [some (.ref 386)], [], M86)
                refine w_en dX9_statement_96 rfl ?_
                exact ⟨_, rfl, hJ87, hb⟩
            · skip
              replace hb : zHd _ := hb.2 h71
              refine w_ine_f dX9_isWord_14 (t := 21) rfl (by omega) ?_
              refine w_ic dX9_isWord_17 zi_1 ?_
              refine w_gt dX9_isWord_18 (t := 22) rfl ?_
              refine w_en dX9_isWord_22 rfl ?_
              show ZW _ _ _ _ _ _ _ (76, [some (.ref 386)], [.int 1], M0)
              refine w_ieq_f dX9_statement_76 (t := 87) rfl (by have := zt_1; omega) ?_
              refine w_lo dX9_statement_79 rfl rfl rfl rfl ?_
              refine w_ic dX9_statement_80 zi_1 ?_
              refine w_iv dX9_statement_81 rfl rfl (As := [.int 1]) rfl rfl hJ0.1.1 zs_386 (Nat.le_of_ble_eq_true rfl) ?_
              obtain ⟨P93, hp94, hb⟩ := hb
              replace hb : zHd _ := hb
              have hp94c : b_2327 (zi M0) (1 : Int32).toInt P93 := by rw [zt_1]; exact hp94
              refine ZV.imp (u_2327 1 hN hJ0.1 hp94c) ?_
              rintro _ ⟨M91, rfl, hJ92, hq95⟩
              replace hb : zHd _ := hb  (zi M91) (zi_fr hJ92.2) hq95
              have hJ97 := zJ_trans hJ0 hJ92 (zSub_cons (fun _ _ h h' hk => zIR_a (by omega) (by omega)) (zSub_cons (fun _ _ h h' hk => zIR_s (zIR_e (by omega) (by omega) hk)) (zSub_cons (fun _ _ h h' hk => zIR_s (zIR_s (zIR_e (by omega) (by omega) hk))) (zSub_cons (fun _ _ h h' hk => zIR_s (zIR_s (zIR_s (zIR_e (by omega) (by omega) hk)))) (zSub_cons (fun _ _ h h' hk => zIR_s (zIR_s (zIR_s (zIR_s (zIR_e (by omega) (by omega) hk))))) (zSub_cons (fun _ _ h h' hk => zIR_s (zIR_s (zIR_s (zIR_s (zIR_s (zIR_e (by omega) (by omega) hk)))))) (zSub_cons (fun _ _ h h' hk => zIR_s (zIR_s (zIR_s (zIR_s (zIR_s (zIR_s (zIR_e (by omega) (by omega) hk))))))) (zSub_cons (fun _ _ h h' hk => zIR_s (zIR_s (zIR_s (zIR_s (zIR_s (zIR_s (zIR_s (zIR_e (by omega) (by omega) hk)))))))) (zSub_cons (fun _ _ h h' hk => zIR_s (zIR_s (zIR_s (zIR_s (zIR_s (zIR_s (zIR_s (zIR_s (zIR_e (by omega) (by omega) hk))))))))) (zSub_cons (fun _ _ h h' hk => zIR_s (zIR_s (zIR_s (zIR_s (zIR_s (zIR_s (zIR_s (zIR_s (zIR_s (zIR_e (by omega) (by omega) hk)))))))))) (zSub_cons (fun _ _ h h' hk => zIR_s (zIR_s (zIR_s (zIR_s (zIR_s (zIR_s (zIR_s (zIR_s (zIR_s (zIR_s (zIR_e (by omega) (by omega) hk))))))))))) (zSub_cons (fun _ _ h h' hk => zIR_s (zIR_s (zIR_s (zIR_s (zIR_s (zIR_s (zIR_s (zIR_s (zIR_s (zIR_s (zIR_s (zIR_e (by omega) (by omega) hk)))))))))))) (zSub_cons (fun _ _ h h' hk => zIR_s (zIR_s (zIR_s (zIR_s (zIR_s (zIR_s (zIR_s (zIR_s (zIR_s (zIR_s (zIR_s (zIR_s (zIR_e (by omega) (by omega) hk))))))))))))) zSub_nil)))))))))))))
              show ZW _ _ _ _ _ _ _ (84, [some (.ref 386)], [], M91)
              refine w_gt dX9_statement_84 (t := 96) rfl ?_
              refine w_en dX9_statement_96 rfl ?_
              exact ⟨_, rfl, hJ97, hb⟩
          · skip
            replace hb : zHd _ := hb.2 h68
            refine w_ine_f dX9_isWord_14 (t := 21) rfl (by omega) ?_
            refine w_ic dX9_isWord_17 zi_1 ?_
            refine w_gt dX9_isWord_18 (t := 22) rfl ?_
            refine w_en dX9_isWord_22 rfl ?_
            show ZW _ _ _ _ _ _ _ (58, [some (.ref 386)], [.int 1], M0)
            refine w_ieq_f dX9_statement_58 (t := 69) rfl (by have := zt_1; omega) ?_
            refine w_lo dX9_statement_61 rfl rfl rfl rfl ?_
            refine w_ic dX9_statement_62 zi_0 ?_
            refine w_iv dX9_statement_63 rfl rfl (As := [.int 0]) rfl rfl hJ0.1.1 zs_386 (Nat.le_of_ble_eq_true rfl) ?_
            obtain ⟨P100, hp101, hb⟩ := hb
            replace hb : zHd _ := hb
            have hp101c : b_2327 (zi M0) (0 : Int32).toInt P100 := by rw [zt_0]; exact hp101
            refine ZV.imp (u_2327 0 hN hJ0.1 hp101c) ?_
            rintro _ ⟨M98, rfl, hJ99, hq102⟩
            replace hb : zHd _ := hb  (zi M98) (zi_fr hJ99.2) hq102
            have hJ104 := zJ_trans hJ0 hJ99 (zSub_cons (fun _ _ h h' hk => zIR_a (by omega) (by omega)) (zSub_cons (fun _ _ h h' hk => zIR_s (zIR_e (by omega) (by omega) hk)) (zSub_cons (fun _ _ h h' hk => zIR_s (zIR_s (zIR_e (by omega) (by omega) hk))) (zSub_cons (fun _ _ h h' hk => zIR_s (zIR_s (zIR_s (zIR_e (by omega) (by omega) hk)))) (zSub_cons (fun _ _ h h' hk => zIR_s (zIR_s (zIR_s (zIR_s (zIR_e (by omega) (by omega) hk))))) (zSub_cons (fun _ _ h h' hk => zIR_s (zIR_s (zIR_s (zIR_s (zIR_s (zIR_e (by omega) (by omega) hk)))))) (zSub_cons (fun _ _ h h' hk => zIR_s (zIR_s (zIR_s (zIR_s (zIR_s (zIR_s (zIR_e (by omega) (by omega) hk))))))) (zSub_cons (fun _ _ h h' hk => zIR_s (zIR_s (zIR_s (zIR_s (zIR_s (zIR_s (zIR_s (zIR_e (by omega) (by omega) hk)))))))) (zSub_cons (fun _ _ h h' hk => zIR_s (zIR_s (zIR_s (zIR_s (zIR_s (zIR_s (zIR_s (zIR_s (zIR_e (by omega) (by omega) hk))))))))) (zSub_cons (fun _ _ h h' hk => zIR_s (zIR_s (zIR_s (zIR_s (zIR_s (zIR_s (zIR_s (zIR_s (zIR_s (zIR_e (by omega) (by omega) hk)))))))))) (zSub_cons (fun _ _ h h' hk => zIR_s (zIR_s (zIR_s (zIR_s (zIR_s (zIR_s (zIR_s (zIR_s (zIR_s (zIR_s (zIR_e (by omega) (by omega) hk))))))))))) (zSub_cons (fun _ _ h h' hk => zIR_s (zIR_s (zIR_s (zIR_s (zIR_s (zIR_s (zIR_s (zIR_s (zIR_s (zIR_s (zIR_s (zIR_e (by omega) (by omega) hk)))))))))))) (zSub_cons (fun _ _ h h' hk => zIR_s (zIR_s (zIR_s (zIR_s (zIR_s (zIR_s (zIR_s (zIR_s (zIR_s (zIR_s (zIR_s (zIR_s (zIR_e (by omega) (by omega) hk))))))))))))) zSub_nil)))))))))))))
            show ZW _ _ _ _ _ _ _ (66, [some (.ref 386)], [], M98)
            refine w_gt dX9_statement_66 (t := 96) rfl ?_
            refine w_en dX9_statement_96 rfl ?_
            exact ⟨_, rfl, hJ104, hb⟩
      · skip
        replace hb : zHd _ := hb.2 h7
        refine w_cne_f dX9_isWord_5 (t := 21) rfl (by have := zt_1; omega) ?_
        refine w_lo dX9_isWord_8 rfl rfl rfl rfl ?_
        refine w_gfl dX9_isWord_9 rfl hJ0.1 zs_386 (Nat.le_of_ble_eq_true rfl) zo_386_7 ?_
        intro y108 f105 h106 h107
        replace hb : zHd _ := hb y108.toInt (ziL f105)
        refine w_lo dX9_isWord_12 rfl rfl rfl rfl ?_
        refine w_lcm dX9_isWord_13 ?_
        intro x109 h110
        have := ztl_431415976301
        replace hb : zHd _ := hb x109.toInt (by omega)
        rcases Int.decEq x109.toInt (0 : Int) with h111 | h111
        · skip
          replace hb : zHd _ := hb.1 h111
          refine w_ine_t dX9_isWord_14 (t := 21) rfl (by omega) ?_
          refine w_ic dX9_isWord_21 zi_0 ?_
          refine w_en dX9_isWord_22 rfl ?_
          show ZW _ _ _ _ _ _ _ (41, [some (.ref 386)], [.int 0], M0)
          refine w_ieq_t dX9_statement_41 (t := 51) rfl (by have := zt_0; omega) ?_
          refine w_lo dX9_statement_51 rfl rfl rfl rfl ?_
          refine w_me (st' := [.long (1885434739 : Int64), .ref 386]) dX9_statement_52 rfl rfl rfl rfl rfl ?_
          refine w_iv dX9_statement_55 rfl rfl (As := [.long (1885434739 : Int64)]) rfl rfl hJ0.1.1 zs_386 (Nat.le_of_ble_eq_true rfl) ?_
          refine ZV.of (ini := false) rfl (Nat.le_of_ble_eq_true rfl) (by decide +kernel) ?_
          show ZW _ _ _ _ _ _ _ (0, [some (.ref 386), some (.long (1885434739 : Int64)), none], [], M0)
          refine w_lo dX9_isWord_0 rfl rfl rfl rfl ?_
          refine w_gf dX9_isWord_1 rfl hJ0.1.1 zs_386 f2 ?_
          refine w_ic dX9_isWord_4 zi_1 ?_
          refine w_cne_f dX9_isWord_5 (t := 21) rfl (by have := zt_1; omega) ?_
          refine w_lo dX9_isWord_8 rfl rfl rfl rfl ?_
          refine w_gf dX9_isWord_9 rfl hJ0.1.1 zs_386 f105 ?_
          refine w_lo dX9_isWord_12 rfl rfl rfl rfl ?_
          refine w_lcm dX9_isWord_13 ?_
          intro x112 h113
          have := ztl_1885434739
          replace hb : zHd _ := hb x112.toInt (by omega)
          rcases Int.decEq x112.toInt (0 : Int) with h114 | h114
          · skip
            replace hb : zHd _ := hb.1 h114
            refine w_ine_t dX9_isWord_14 (t := 21) rfl (by omega) ?_
            refine w_ic dX9_isWord_21 zi_0 ?_
            refine w_en dX9_isWord_22 rfl ?_
            show ZW _ _ _ _ _ _ _ (58, [some (.ref 386)], [.int 0], M0)
            refine w_ieq_t dX9_statement_58 (t := 69) rfl (by have := zt_0; omega) ?_
            refine w_lo dX9_statement_69 rfl rfl rfl rfl ?_
            refine w_me (st' := [.long (1684366704 : Int64), .ref 386]) dX9_statement_70 rfl rfl rfl rfl rfl ?_
            refine w_iv dX9_statement_73 rfl rfl (As := [.long (1684366704 : Int64)]) rfl rfl hJ0.1.1 zs_386 (Nat.le_of_ble_eq_true rfl) ?_
            refine ZV.of (ini := false) rfl (Nat.le_of_ble_eq_true rfl) (by decide +kernel) ?_
            show ZW _ _ _ _ _ _ _ (0, [some (.ref 386), some (.long (1684366704 : Int64)), none], [], M0)
            refine w_lo dX9_isWord_0 rfl rfl rfl rfl ?_
            refine w_gf dX9_isWord_1 rfl hJ0.1.1 zs_386 f2 ?_
            refine w_ic dX9_isWord_4 zi_1 ?_
            refine w_cne_f dX9_isWord_5 (t := 21) rfl (by have := zt_1; omega) ?_
            refine w_lo dX9_isWord_8 rfl rfl rfl rfl ?_
            refine w_gf dX9_isWord_9 rfl hJ0.1.1 zs_386 f105 ?_
            refine w_lo dX9_isWord_12 rfl rfl rfl rfl ?_
            refine w_lcm dX9_isWord_13 ?_
            intro x115 h116
            have := ztl_1684366704
            replace hb : zHd _ := hb x115.toInt (by omega)
            rcases Int.decEq x115.toInt (0 : Int) with h117 | h117
            · skip
              replace hb : zHd _ := hb.1 h117
              refine w_ine_t dX9_isWord_14 (t := 21) rfl (by omega) ?_
              refine w_ic dX9_isWord_21 zi_0 ?_
              refine w_en dX9_isWord_22 rfl ?_
              show ZW _ _ _ _ _ _ _ (76, [some (.ref 386)], [.int 0], M0)
              refine w_ieq_t dX9_statement_76 (t := 87) rfl (by have := zt_0; omega) ?_
              refine w_lo dX9_statement_87 rfl rfl rfl rfl ?_
              refine w_ic dX9_statement_88 zi_1 ?_
              refine w_lo dX9_statement_89 rfl rfl rfl rfl ?_
              refine w_gfi dX9_statement_90 rfl hJ0.1 zs_386 (Nat.le_of_ble_eq_true rfl) zo_386_4 ?_
              intro x118 f119 h120 h121
              replace hb : zHd _ := hb x118.toInt (ziE f119) h120 h121
              refine w_iv dX9_statement_93 rfl rfl (As := [.int 1, .int x118]) rfl rfl hJ0.1.1 zs_386 (Nat.le_of_ble_eq_true rfl) ?_
              refine ZV.of (ini := false) rfl (Nat.le_of_ble_eq_true rfl) (by decide +kernel) ?_
              show ZW _ _ _ _ _ _ _ (0, [some (.ref 386), some (.int 1), some (.int x118)], [], M0)
              refine w_lo dX9_blame_0 rfl rfl rfl rfl ?_
              refine w_gfi dX9_blame_1 rfl hJ0.1 zs_386 (Nat.le_of_ble_eq_true rfl) zo_386_8 ?_
              intro x122 f123 h124 h125
              replace hb : zHd _ := hb x122.toInt (ziE f123) h124 h125
              rcases zcut (0 : Int) x122.toInt with h126 | h126
              · skip
                replace hb : zHd _ := hb.1 h126
                refine w_ile_f dX9_blame_4 (t := 8) rfl (by omega) ?_
                refine w_en dX9_blame_7 rfl ?_
                show ZW _ _ _ _ _ _ _ (96, [some (.ref 386)], [], M0)
                refine w_en dX9_statement_96 rfl ?_
                exact ⟨_, rfl, hJ0, hb⟩
              · skip
                replace hb : zHd _ := hb.2 h126
                refine w_ile_t dX9_blame_4 (t := 8) rfl (by omega) ?_
                refine w_lo dX9_blame_8 rfl rfl rfl rfl ?_
                refine w_lo dX9_blame_9 rfl rfl rfl rfl ?_
                refine w_pfi dX9_blame_10 rfl hJ0 zs_386 (Nat.le_of_ble_eq_true rfl) zo_386_8 (by have := zt_1; omega) (by have := zt_1; omega) (zIR_s (zIR_s (zIR_s (zIR_s (zIR_s (zIR_s (zIR_s (zIR_s (zIR_s (zIR_s (zIR_s (zIR_k (by omega) (by omega))))))))))))) rfl rfl rfl ?_
                intro M127 hJ128 f129 hn130
                replace hb : zHd _ := hb (zi M127) (zi_zup hn130 f129 rfl zt_1)
                refine w_lo dX9_blame_13 rfl rfl rfl rfl ?_
                refine w_lo dX9_blame_14 rfl rfl rfl rfl ?_
                refine w_pfi dX9_blame_15 rfl hJ128 zs_386 (Nat.le_of_ble_eq_true rfl) zo_386_9 (by omega) (by omega) (zIR_s (zIR_s (zIR_s (zIR_s (zIR_s (zIR_s (zIR_s (zIR_s (zIR_s (zIR_s (zIR_s (zIR_s (zIR_k (by omega) (by omega)))))))))))))) rfl rfl rfl ?_
                intro M132 hJ133 f134 hn135
                replace hb : zHd _ := hb (zi M132) (zi_zup hn135 f134 rfl rfl)
                refine w_en dX9_blame_18 rfl ?_
                show ZW _ _ _ _ _ _ _ (96, [some (.ref 386)], [], M132)
                refine w_en dX9_statement_96 rfl ?_
                exact ⟨_, rfl, hJ133, hb⟩
            · skip
              replace hb : zHd _ := hb.2 h117
              refine w_ine_f dX9_isWord_14 (t := 21) rfl (by omega) ?_
              refine w_ic dX9_isWord_17 zi_1 ?_
              refine w_gt dX9_isWord_18 (t := 22) rfl ?_
              refine w_en dX9_isWord_22 rfl ?_
              show ZW _ _ _ _ _ _ _ (76, [some (.ref 386)], [.int 1], M0)
              refine w_ieq_f dX9_statement_76 (t := 87) rfl (by have := zt_1; omega) ?_
              refine w_lo dX9_statement_79 rfl rfl rfl rfl ?_
              refine w_ic dX9_statement_80 zi_1 ?_
              refine w_iv dX9_statement_81 rfl rfl (As := [.int 1]) rfl rfl hJ0.1.1 zs_386 (Nat.le_of_ble_eq_true rfl) ?_
              obtain ⟨P139, hp140, hb⟩ := hb
              replace hb : zHd _ := hb
              have hp140c : b_2327 (zi M0) (1 : Int32).toInt P139 := by rw [zt_1]; exact hp140
              refine ZV.imp (u_2327 1 hN hJ0.1 hp140c) ?_
              rintro _ ⟨M137, rfl, hJ138, hq141⟩
              replace hb : zHd _ := hb  (zi M137) (zi_fr hJ138.2) hq141
              have hJ143 := zJ_trans hJ0 hJ138 (zSub_cons (fun _ _ h h' hk => zIR_a (by omega) (by omega)) (zSub_cons (fun _ _ h h' hk => zIR_s (zIR_e (by omega) (by omega) hk)) (zSub_cons (fun _ _ h h' hk => zIR_s (zIR_s (zIR_e (by omega) (by omega) hk))) (zSub_cons (fun _ _ h h' hk => zIR_s (zIR_s (zIR_s (zIR_e (by omega) (by omega) hk)))) (zSub_cons (fun _ _ h h' hk => zIR_s (zIR_s (zIR_s (zIR_s (zIR_e (by omega) (by omega) hk))))) (zSub_cons (fun _ _ h h' hk => zIR_s (zIR_s (zIR_s (zIR_s (zIR_s (zIR_e (by omega) (by omega) hk)))))) (zSub_cons (fun _ _ h h' hk => zIR_s (zIR_s (zIR_s (zIR_s (zIR_s (zIR_s (zIR_e (by omega) (by omega) hk))))))) (zSub_cons (fun _ _ h h' hk => zIR_s (zIR_s (zIR_s (zIR_s (zIR_s (zIR_s (zIR_s (zIR_e (by omega) (by omega) hk)))))))) (zSub_cons (fun _ _ h h' hk => zIR_s (zIR_s (zIR_s (zIR_s (zIR_s (zIR_s (zIR_s (zIR_s (zIR_e (by omega) (by omega) hk))))))))) (zSub_cons (fun _ _ h h' hk => zIR_s (zIR_s (zIR_s (zIR_s (zIR_s (zIR_s (zIR_s (zIR_s (zIR_s (zIR_e (by omega) (by omega) hk)))))))))) (zSub_cons (fun _ _ h h' hk => zIR_s (zIR_s (zIR_s (zIR_s (zIR_s (zIR_s (zIR_s (zIR_s (zIR_s (zIR_s (zIR_e (by omega) (by omega) hk))))))))))) (zSub_cons (fun _ _ h h' hk => zIR_s (zIR_s (zIR_s (zIR_s (zIR_s (zIR_s (zIR_s (zIR_s (zIR_s (zIR_s (zIR_s (zIR_e (by omega) (by omega) hk)))))))))))) (zSub_cons (fun _ _ h h' hk => zIR_s (zIR_s (zIR_s (zIR_s (zIR_s (zIR_s (zIR_s (zIR_s (zIR_s (zIR_s (zIR_s (zIR_s (zIR_e (by omega) (by omega) hk))))))))))))) zSub_nil)))))))))))))
              show ZW _ _ _ _ _ _ _ (84, [some (.ref 386)], [], M137)
              refine w_gt dX9_statement_84 (t := 96) rfl ?_
              refine w_en dX9_statement_96 rfl ?_
              exact ⟨_, rfl, hJ143, hb⟩
          · skip
            replace hb : zHd _ := hb.2 h114
            refine w_ine_f dX9_isWord_14 (t := 21) rfl (by omega) ?_
            refine w_ic dX9_isWord_17 zi_1 ?_
            refine w_gt dX9_isWord_18 (t := 22) rfl ?_
            refine w_en dX9_isWord_22 rfl ?_
            show ZW _ _ _ _ _ _ _ (58, [some (.ref 386)], [.int 1], M0)
            refine w_ieq_f dX9_statement_58 (t := 69) rfl (by have := zt_1; omega) ?_
            refine w_lo dX9_statement_61 rfl rfl rfl rfl ?_
            refine w_ic dX9_statement_62 zi_0 ?_
            refine w_iv dX9_statement_63 rfl rfl (As := [.int 0]) rfl rfl hJ0.1.1 zs_386 (Nat.le_of_ble_eq_true rfl) ?_
            obtain ⟨P146, hp147, hb⟩ := hb
            replace hb : zHd _ := hb
            have hp147c : b_2327 (zi M0) (0 : Int32).toInt P146 := by rw [zt_0]; exact hp147
            refine ZV.imp (u_2327 0 hN hJ0.1 hp147c) ?_
            rintro _ ⟨M144, rfl, hJ145, hq148⟩
            replace hb : zHd _ := hb  (zi M144) (zi_fr hJ145.2) hq148
            have hJ150 := zJ_trans hJ0 hJ145 (zSub_cons (fun _ _ h h' hk => zIR_a (by omega) (by omega)) (zSub_cons (fun _ _ h h' hk => zIR_s (zIR_e (by omega) (by omega) hk)) (zSub_cons (fun _ _ h h' hk => zIR_s (zIR_s (zIR_e (by omega) (by omega) hk))) (zSub_cons (fun _ _ h h' hk => zIR_s (zIR_s (zIR_s (zIR_e (by omega) (by omega) hk)))) (zSub_cons (fun _ _ h h' hk => zIR_s (zIR_s (zIR_s (zIR_s (zIR_e (by omega) (by omega) hk))))) (zSub_cons (fun _ _ h h' hk => zIR_s (zIR_s (zIR_s (zIR_s (zIR_s (zIR_e (by omega) (by omega) hk)))))) (zSub_cons (fun _ _ h h' hk => zIR_s (zIR_s (zIR_s (zIR_s (zIR_s (zIR_s (zIR_e (by omega) (by omega) hk))))))) (zSub_cons (fun _ _ h h' hk => zIR_s (zIR_s (zIR_s (zIR_s (zIR_s (zIR_s (zIR_s (zIR_e (by omega) (by omega) hk)))))))) (zSub_cons (fun _ _ h h' hk => zIR_s (zIR_s (zIR_s (zIR_s (zIR_s (zIR_s (zIR_s (zIR_s (zIR_e (by omega) (by omega) hk))))))))) (zSub_cons (fun _ _ h h' hk => zIR_s (zIR_s (zIR_s (zIR_s (zIR_s (zIR_s (zIR_s (zIR_s (zIR_s (zIR_e (by omega) (by omega) hk)))))))))) (zSub_cons (fun _ _ h h' hk => zIR_s (zIR_s (zIR_s (zIR_s (zIR_s (zIR_s (zIR_s (zIR_s (zIR_s (zIR_s (zIR_e (by omega) (by omega) hk))))))))))) (zSub_cons (fun _ _ h h' hk => zIR_s (zIR_s (zIR_s (zIR_s (zIR_s (zIR_s (zIR_s (zIR_s (zIR_s (zIR_s (zIR_s (zIR_e (by omega) (by omega) hk)))))))))))) (zSub_cons (fun _ _ h h' hk => zIR_s (zIR_s (zIR_s (zIR_s (zIR_s (zIR_s (zIR_s (zIR_s (zIR_s (zIR_s (zIR_s (zIR_s (zIR_e (by omega) (by omega) hk))))))))))))) zSub_nil)))))))))))))
            show ZW _ _ _ _ _ _ _ (66, [some (.ref 386)], [], M144)
            refine w_gt dX9_statement_66 (t := 96) rfl ?_
            refine w_en dX9_statement_96 rfl ?_
            exact ⟨_, rfl, hJ150, hb⟩
        · skip
          replace hb : zHd _ := hb.2 h111
          refine w_ine_f dX9_isWord_14 (t := 21) rfl (by omega) ?_
          refine w_ic dX9_isWord_17 zi_1 ?_
          refine w_gt dX9_isWord_18 (t := 22) rfl ?_
          refine w_en dX9_isWord_22 rfl ?_
          show ZW _ _ _ _ _ _ _ (41, [some (.ref 386)], [.int 1], M0)
          refine w_ieq_f dX9_statement_41 (t := 51) rfl (by have := zt_1; omega) ?_
          refine w_lo dX9_statement_44 rfl rfl rfl rfl ?_
          refine w_iv dX9_statement_45 rfl rfl (As := []) rfl rfl hJ0.1.1 zs_386 (Nat.le_of_ble_eq_true rfl) ?_
          obtain ⟨P153, hp154, hb⟩ := hb
          replace hb : zHd _ := hb
          refine ZV.imp (u_2326 hN hJ0.1 hp154) ?_
          rintro _ ⟨M151, rfl, hJ152, hq155⟩
          replace hb : zHd _ := hb  (zi M151) (zi_fr hJ152.2) hq155
          have hJ157 := zJ_trans hJ0 hJ152 (zSub_cons (fun _ _ h h' hk => zIR_a (by omega) (by omega)) (zSub_cons (fun _ _ h h' hk => zIR_s (zIR_e (by omega) (by omega) hk)) (zSub_cons (fun _ _ h h' hk => zIR_s (zIR_s (zIR_s (zIR_e (by omega) (by omega) hk)))) (zSub_cons (fun _ _ h h' hk => zIR_s (zIR_s (zIR_s (zIR_s (zIR_s (zIR_s (zIR_s (zIR_s (zIR_e (by omega) (by omega) hk))))))))) (zSub_cons (fun _ _ h h' hk => zIR_s (zIR_s (zIR_s (zIR_s (zIR_s (zIR_s (zIR_s (zIR_s (zIR_s (zIR_e (by omega) (by omega) hk)))))))))) (zSub_cons (fun _ _ h h' hk => zIR_s (zIR_s (zIR_s (zIR_s (zIR_s (zIR_s (zIR_s (zIR_s (zIR_s (zIR_s (zIR_e (by omega) (by omega) hk))))))))))) (zSub_cons (fun _ _ h h' hk => zIR_s (zIR_s (zIR_s (zIR_s (zIR_s (zIR_s (zIR_s (zIR_s (zIR_s (zIR_s (zIR_s (zIR_e (by omega) (by omega) hk)))))))))))) (zSub_cons (fun _ _ h h' hk => zIR_s (zIR_s (zIR_s (zIR_s (zIR_s (zIR_s (zIR_s (zIR_s (zIR_s (zIR_s (zIR_s (zIR_s (zIR_e (by omega) (by omega) hk))))))))))))) zSub_nil))))))))
          show ZW _ _ _ _ _ _ _ (48, [some (.ref 386)], [], M151)
          refine w_gt dX9_statement_48 (t := 96) rfl ?_
          refine w_en dX9_statement_96 rfl ?_
          exact ⟨_, rfl, hJ157, hb⟩
    · skip
      replace hb : zHd _ := hb.2 h6
      refine w_cne_f dX9_isWord_5 (t := 21) rfl (by have := zt_1; omega) ?_
      refine w_lo dX9_isWord_8 rfl rfl rfl rfl ?_
      refine w_gfl dX9_isWord_9 rfl hJ0.1 zs_386 (Nat.le_of_ble_eq_true rfl) zo_386_7 ?_
      intro y161 f158 h159 h160
      replace hb : zHd _ := hb y161.toInt (ziL f158)
      refine w_lo dX9_isWord_12 rfl rfl rfl rfl ?_
      refine w_lcm dX9_isWord_13 ?_
      intro x162 h163
      have := ztl_495739560811
      replace hb : zHd _ := hb x162.toInt (by omega)
      rcases Int.decEq x162.toInt (0 : Int) with h164 | h164
      · skip
        replace hb : zHd _ := hb.1 h164
        refine w_ine_t dX9_isWord_14 (t := 21) rfl (by omega) ?_
        refine w_ic dX9_isWord_21 zi_0 ?_
        refine w_en dX9_isWord_22 rfl ?_
        show ZW _ _ _ _ _ _ _ (24, [some (.ref 386)], [.int 0], M0)
        refine w_ieq_t dX9_statement_24 (t := 34) rfl (by have := zt_0; omega) ?_
        refine w_lo dX9_statement_34 rfl rfl rfl rfl ?_
        refine w_me (st' := [.long (431415976301 : Int64), .ref 386]) dX9_statement_35 rfl rfl rfl rfl rfl ?_
        refine w_iv dX9_statement_38 rfl rfl (As := [.long (431415976301 : Int64)]) rfl rfl hJ0.1.1 zs_386 (Nat.le_of_ble_eq_true rfl) ?_
        refine ZV.of (ini := false) rfl (Nat.le_of_ble_eq_true rfl) (by decide +kernel) ?_
        show ZW _ _ _ _ _ _ _ (0, [some (.ref 386), some (.long (431415976301 : Int64)), none], [], M0)
        refine w_lo dX9_isWord_0 rfl rfl rfl rfl ?_
        refine w_gf dX9_isWord_1 rfl hJ0.1.1 zs_386 f2 ?_
        refine w_ic dX9_isWord_4 zi_1 ?_
        refine w_cne_f dX9_isWord_5 (t := 21) rfl (by have := zt_1; omega) ?_
        refine w_lo dX9_isWord_8 rfl rfl rfl rfl ?_
        refine w_gf dX9_isWord_9 rfl hJ0.1.1 zs_386 f158 ?_
        refine w_lo dX9_isWord_12 rfl rfl rfl rfl ?_
        refine w_lcm dX9_isWord_13 ?_
        intro x165 h166
        have := ztl_431415976301
        replace hb : zHd _ := hb x165.toInt (by omega)
        rcases Int.decEq x165.toInt (0 : Int) with h167 | h167
        · skip
          replace hb : zHd _ := hb.1 h167
          refine w_ine_t dX9_isWord_14 (t := 21) rfl (by omega) ?_
          refine w_ic dX9_isWord_21 zi_0 ?_
          refine w_en dX9_isWord_22 rfl ?_
          show ZW _ _ _ _ _ _ _ (41, [some (.ref 386)], [.int 0], M0)
          refine w_ieq_t dX9_statement_41 (t := 51) rfl (by have := zt_0; omega) ?_
          refine w_lo dX9_statement_51 rfl rfl rfl rfl ?_
          refine w_me (st' := [.long (1885434739 : Int64), .ref 386]) dX9_statement_52 rfl rfl rfl rfl rfl ?_
          refine w_iv dX9_statement_55 rfl rfl (As := [.long (1885434739 : Int64)]) rfl rfl hJ0.1.1 zs_386 (Nat.le_of_ble_eq_true rfl) ?_
          refine ZV.of (ini := false) rfl (Nat.le_of_ble_eq_true rfl) (by decide +kernel) ?_
          show ZW _ _ _ _ _ _ _ (0, [some (.ref 386), some (.long (1885434739 : Int64)), none], [], M0)
          refine w_lo dX9_isWord_0 rfl rfl rfl rfl ?_
          refine w_gf dX9_isWord_1 rfl hJ0.1.1 zs_386 f2 ?_
          refine w_ic dX9_isWord_4 zi_1 ?_
          refine w_cne_f dX9_isWord_5 (t := 21) rfl (by have := zt_1; omega) ?_
          refine w_lo dX9_isWord_8 rfl rfl rfl rfl ?_
          refine w_gf dX9_isWord_9 rfl hJ0.1.1 zs_386 f158 ?_
          refine w_lo dX9_isWord_12 rfl rfl rfl rfl ?_
          refine w_lcm dX9_isWord_13 ?_
          intro x168 h169
          have := ztl_1885434739
          replace hb : zHd _ := hb x168.toInt (by omega)
          rcases Int.decEq x168.toInt (0 : Int) with h170 | h170
          · skip
            replace hb : zHd _ := hb.1 h170
            refine w_ine_t dX9_isWord_14 (t := 21) rfl (by omega) ?_
            refine w_ic dX9_isWord_21 zi_0 ?_
            refine w_en dX9_isWord_22 rfl ?_
            show ZW _ _ _ _ _ _ _ (58, [some (.ref 386)], [.int 0], M0)
            refine w_ieq_t dX9_statement_58 (t := 69) rfl (by have := zt_0; omega) ?_
            refine w_lo dX9_statement_69 rfl rfl rfl rfl ?_
            refine w_me (st' := [.long (1684366704 : Int64), .ref 386]) dX9_statement_70 rfl rfl rfl rfl rfl ?_
            refine w_iv dX9_statement_73 rfl rfl (As := [.long (1684366704 : Int64)]) rfl rfl hJ0.1.1 zs_386 (Nat.le_of_ble_eq_true rfl) ?_
            refine ZV.of (ini := false) rfl (Nat.le_of_ble_eq_true rfl) (by decide +kernel) ?_
            show ZW _ _ _ _ _ _ _ (0, [some (.ref 386), some (.long (1684366704 : Int64)), none], [], M0)
            refine w_lo dX9_isWord_0 rfl rfl rfl rfl ?_
            refine w_gf dX9_isWord_1 rfl hJ0.1.1 zs_386 f2 ?_
            refine w_ic dX9_isWord_4 zi_1 ?_
            refine w_cne_f dX9_isWord_5 (t := 21) rfl (by have := zt_1; omega) ?_
            refine w_lo dX9_isWord_8 rfl rfl rfl rfl ?_
            refine w_gf dX9_isWord_9 rfl hJ0.1.1 zs_386 f158 ?_
            refine w_lo dX9_isWord_12 rfl rfl rfl rfl ?_
            refine w_lcm dX9_isWord_13 ?_
            intro x171 h172
            have := ztl_1684366704
            replace hb : zHd _ := hb x171.toInt (by omega)
            rcases Int.decEq x171.toInt (0 : Int) with h173 | h173
            · skip
              replace hb : zHd _ := hb.1 h173
              refine w_ine_t dX9_isWord_14 (t := 21) rfl (by omega) ?_
              refine w_ic dX9_isWord_21 zi_0 ?_
              refine w_en dX9_isWord_22 rfl ?_
              show ZW _ _ _ _ _ _ _ (76, [some (.ref 386)], [.int 0], M0)
              refine w_ieq_t dX9_statement_76 (t := 87) rfl (by have := zt_0; omega) ?_
              refine w_lo dX9_statement_87 rfl rfl rfl rfl ?_
              refine w_ic dX9_statement_88 zi_1 ?_
              refine w_lo dX9_statement_89 rfl rfl rfl rfl ?_
              refine w_gfi dX9_statement_90 rfl hJ0.1 zs_386 (Nat.le_of_ble_eq_true rfl) zo_386_4 ?_
              intro x174 f175 h176 h177
              replace hb : zHd _ := hb x174.toInt (ziE f175) h176 h177
              refine w_iv dX9_statement_93 rfl rfl (As := [.int 1, .int x174]) rfl rfl hJ0.1.1 zs_386 (Nat.le_of_ble_eq_true rfl) ?_
              refine ZV.of (ini := false) rfl (Nat.le_of_ble_eq_true rfl) (by decide +kernel) ?_
              show ZW _ _ _ _ _ _ _ (0, [some (.ref 386), some (.int 1), some (.int x174)], [], M0)
              refine w_lo dX9_blame_0 rfl rfl rfl rfl ?_
              refine w_gfi dX9_blame_1 rfl hJ0.1 zs_386 (Nat.le_of_ble_eq_true rfl) zo_386_8 ?_
              intro x178 f179 h180 h181
              replace hb : zHd _ := hb x178.toInt (ziE f179) h180 h181
              rcases zcut (0 : Int) x178.toInt with h182 | h182
              · skip
                replace hb : zHd _ := hb.1 h182
                refine w_ile_f dX9_blame_4 (t := 8) rfl (by omega) ?_
                refine w_en dX9_blame_7 rfl ?_
                show ZW _ _ _ _ _ _ _ (96, [some (.ref 386)], [], M0)
                refine w_en dX9_statement_96 rfl ?_
                exact ⟨_, rfl, hJ0, hb⟩
              · skip
                replace hb : zHd _ := hb.2 h182
                refine w_ile_t dX9_blame_4 (t := 8) rfl (by omega) ?_
                refine w_lo dX9_blame_8 rfl rfl rfl rfl ?_
                refine w_lo dX9_blame_9 rfl rfl rfl rfl ?_
                refine w_pfi dX9_blame_10 rfl hJ0 zs_386 (Nat.le_of_ble_eq_true rfl) zo_386_8 (by have := zt_1; omega) (by have := zt_1; omega) (zIR_s (zIR_s (zIR_s (zIR_s (zIR_s (zIR_s (zIR_s (zIR_s (zIR_s (zIR_s (zIR_s (zIR_k (by omega) (by omega))))))))))))) rfl rfl rfl ?_
                intro M183 hJ184 f185 hn186
                replace hb : zHd _ := hb (zi M183) (zi_zup hn186 f185 rfl zt_1)
                refine w_lo dX9_blame_13 rfl rfl rfl rfl ?_
                refine w_lo dX9_blame_14 rfl rfl rfl rfl ?_
                refine w_pfi dX9_blame_15 rfl hJ184 zs_386 (Nat.le_of_ble_eq_true rfl) zo_386_9 (by omega) (by omega) (zIR_s (zIR_s (zIR_s (zIR_s (zIR_s (zIR_s (zIR_s (zIR_s (zIR_s (zIR_s (zIR_s (zIR_s (zIR_k (by omega) (by omega)))))))))))))) rfl rfl rfl ?_
                intro M188 hJ189 f190 hn191
                replace hb : zHd _ := hb (zi M188) (zi_zup hn191 f190 rfl rfl)
                refine w_en dX9_blame_18 rfl ?_
                show ZW _ _ _ _ _ _ _ (96, [some (.ref 386)], [], M188)
                refine w_en dX9_statement_96 rfl ?_
                exact ⟨_, rfl, hJ189, hb⟩
            · skip
              replace hb : zHd _ := hb.2 h173
              refine w_ine_f dX9_isWord_14 (t := 21) rfl (by omega) ?_
              refine w_ic dX9_isWord_17 zi_1 ?_
              refine w_gt dX9_isWord_18 (t := 22) rfl ?_
              refine w_en dX9_isWord_22 rfl ?_
              show ZW _ _ _ _ _ _ _ (76, [some (.ref 386)], [.int 1], M0)
              refine w_ieq_f dX9_statement_76 (t := 87) rfl (by have := zt_1; omega) ?_
              refine w_lo dX9_statement_79 rfl rfl rfl rfl ?_
              refine w_ic dX9_statement_80 zi_1 ?_
              refine w_iv dX9_statement_81 rfl rfl (As := [.int 1]) rfl rfl hJ0.1.1 zs_386 (Nat.le_of_ble_eq_true rfl) ?_
              obtain ⟨P195, hp196, hb⟩ := hb
              replace hb : zHd _ := hb
              have hp196c : b_2327 (zi M0) (1 : Int32).toInt P195 := by rw [zt_1]; exact hp196
              refine ZV.imp (u_2327 1 hN hJ0.1 hp196c) ?_
              rintro _ ⟨M193, rfl, hJ194, hq197⟩
              replace hb : zHd _ := hb  (zi M193) (zi_fr hJ194.2) hq197
              have hJ199 := zJ_trans hJ0 hJ194 (zSub_cons (fun _ _ h h' hk => zIR_a (by omega) (by omega)) (zSub_cons (fun _ _ h h' hk => zIR_s (zIR_e (by omega) (by omega) hk)) (zSub_cons (fun _ _ h h' hk => zIR_s (zIR_s (zIR_e (by omega) (by omega) hk))) (zSub_cons (fun _ _ h h' hk => zIR_s (zIR_s (zIR_s (zIR_e (by omega) (by omega) hk)))) (zSub_cons (fun _ _ h h' hk => zIR_s (zIR_s (zIR_s (zIR_s (zIR_e (by omega) (by omega) hk))))) (zSub_cons (fun _ _ h h' hk => zIR_s (zIR_s (zIR_s (zIR_s (zIR_s (zIR_e (by omega) (by omega) hk)))))) (zSub_cons (fun _ _ h h' hk => zIR_s (zIR_s (zIR_s (zIR_s (zIR_s (zIR_s (zIR_e (by omega) (by omega) hk))))))) (zSub_cons (fun _ _ h h' hk => zIR_s (zIR_s (zIR_s (zIR_s (zIR_s (zIR_s (zIR_s (zIR_e (by omega) (by omega) hk)))))))) (zSub_cons (fun _ _ h h' hk => zIR_s (zIR_s (zIR_s (zIR_s (zIR_s (zIR_s (zIR_s (zIR_s (zIR_e (by omega) (by omega) hk))))))))) (zSub_cons (fun _ _ h h' hk => zIR_s (zIR_s (zIR_s (zIR_s (zIR_s (zIR_s (zIR_s (zIR_s (zIR_s (zIR_e (by omega) (by omega) hk)))))))))) (zSub_cons (fun _ _ h h' hk => zIR_s (zIR_s (zIR_s (zIR_s (zIR_s (zIR_s (zIR_s (zIR_s (zIR_s (zIR_s (zIR_e (by omega) (by omega) hk))))))))))) (zSub_cons (fun _ _ h h' hk => zIR_s (zIR_s (zIR_s (zIR_s (zIR_s (zIR_s (zIR_s (zIR_s (zIR_s (zIR_s (zIR_s (zIR_e (by omega) (by omega) hk)))))))))))) (zSub_cons (fun _ _ h h' hk => zIR_s (zIR_s (zIR_s (zIR_s (zIR_s (zIR_s (zIR_s (zIR_s (zIR_s (zIR_s (zIR_s (zIR_s (zIR_e (by omega) (by omega) hk))))))))))))) zSub_nil)))))))))))))
              show ZW _ _ _ _ _ _ _ (84, [some (.ref 386)], [], M193)
              refine w_gt dX9_statement_84 (t := 96) rfl ?_
              refine w_en dX9_statement_96 rfl ?_
              exact ⟨_, rfl, hJ199, hb⟩
          · skip
            replace hb : zHd _ := hb.2 h170
            refine w_ine_f dX9_isWord_14 (t := 21) rfl (by omega) ?_
            refine w_ic dX9_isWord_17 zi_1 ?_
            refine w_gt dX9_isWord_18 (t := 22) rfl ?_
            refine w_en dX9_isWord_22 rfl ?_
            show ZW _ _ _ _ _ _ _ (58, [some (.ref 386)], [.int 1], M0)
            refine w_ieq_f dX9_statement_58 (t := 69) rfl (by have := zt_1; omega) ?_
            refine w_lo dX9_statement_61 rfl rfl rfl rfl ?_
            refine w_ic dX9_statement_62 zi_0 ?_
            refine w_iv dX9_statement_63 rfl rfl (As := [.int 0]) rfl rfl hJ0.1.1 zs_386 (Nat.le_of_ble_eq_true rfl) ?_
            obtain ⟨P202, hp203, hb⟩ := hb
            replace hb : zHd _ := hb
            have hp203c : b_2327 (zi M0) (0 : Int32).toInt P202 := by rw [zt_0]; exact hp203
            refine ZV.imp (u_2327 0 hN hJ0.1 hp203c) ?_
            rintro _ ⟨M200, rfl, hJ201, hq204⟩
            replace hb : zHd _ := hb  (zi M200) (zi_fr hJ201.2) hq204
            have hJ206 := zJ_trans hJ0 hJ201 (zSub_cons (fun _ _ h h' hk => zIR_a (by omega) (by omega)) (zSub_cons (fun _ _ h h' hk => zIR_s (zIR_e (by omega) (by omega) hk)) (zSub_cons (fun _ _ h h' hk => zIR_s (zIR_s (zIR_e (by omega) (by omega) hk))) (zSub_cons (fun _ _ h h' hk => zIR_s (zIR_s (zIR_s (zIR_e (by omega) (by omega) hk)))) (zSub_cons (fun _ _ h h' hk => zIR_s (zIR_s (zIR_s (zIR_s (zIR_e (by omega) (by omega) hk))))) (zSub_cons (fun _ _ h h' hk => zIR_s (zIR_s (zIR_s (zIR_s (zIR_s (zIR_e (by omega) (by omega) hk)))))) (zSub_cons (fun _ _ h h' hk => zIR_s (zIR_s (zIR_s (zIR_s (zIR_s (zIR_s (zIR_e (by omega) (by omega) hk))))))) (zSub_cons (fun _ _ h h' hk => zIR_s (zIR_s (zIR_s (zIR_s (zIR_s (zIR_s (zIR_s (zIR_e (by omega) (by omega) hk)))))))) (zSub_cons (fun _ _ h h' hk => zIR_s (zIR_s (zIR_s (zIR_s (zIR_s (zIR_s (zIR_s (zIR_s (zIR_e (by omega) (by omega) hk))))))))) (zSub_cons (fun _ _ h h' hk => zIR_s (zIR_s (zIR_s (zIR_s (zIR_s (zIR_s (zIR_s (zIR_s (zIR_s (zIR_e (by omega) (by omega) hk)))))))))) (zSub_cons (fun _ _ h h' hk => zIR_s (zIR_s (zIR_s (zIR_s (zIR_s (zIR_s (zIR_s (zIR_s (zIR_s (zIR_s (zIR_e (by omega) (by omega) hk))))))))))) (zSub_cons (fun _ _ h h' hk => zIR_s (zIR_s (zIR_s (zIR_s (zIR_s (zIR_s (zIR_s (zIR_s (zIR_s (zIR_s (zIR_s (zIR_e (by omega) (by omega) hk)))))))))))) (zSub_cons (fun _ _ h h' hk => zIR_s (zIR_s (zIR_s (zIR_s (zIR_s (zIR_s (zIR_s (zIR_s (zIR_s (zIR_s (zIR_s (zIR_s (zIR_e (by omega) (by omega) hk))))))))))))) zSub_nil)))))))))))))
            show ZW _ _ _ _ _ _ _ (66, [some (.ref 386)], [], M200)
            refine w_gt dX9_statement_66 (t := 96) rfl ?_
            refine w_en dX9_statement_96 rfl ?_
            exact ⟨_, rfl, hJ206, hb⟩
        · skip
          replace hb : zHd _ := hb.2 h167
          refine w_ine_f dX9_isWord_14 (t := 21) rfl (by omega) ?_
          refine w_ic dX9_isWord_17 zi_1 ?_
          refine w_gt dX9_isWord_18 (t := 22) rfl ?_
          refine w_en dX9_isWord_22 rfl ?_
          show ZW _ _ _ _ _ _ _ (41, [some (.ref 386)], [.int 1], M0)
          refine w_ieq_f dX9_statement_41 (t := 51) rfl (by have := zt_1; omega) ?_
          refine w_lo dX9_statement_44 rfl rfl rfl rfl ?_
          refine w_iv dX9_statement_45 rfl rfl (As := []) rfl rfl hJ0.1.1 zs_386 (Nat.le_of_ble_eq_true rfl) ?_
          obtain ⟨P209, hp210, hb⟩ := hb
          replace hb : zHd _ := hb
          refine ZV.imp (u_2326 hN hJ0.1 hp210) ?_
          rintro _ ⟨M207, rfl, hJ208, hq211⟩
          replace hb : zHd _ := hb  (zi M207) (zi_fr hJ208.2) hq211
          have hJ213 := zJ_trans hJ0 hJ208 (zSub_cons (fun _ _ h h' hk => zIR_a (by omega) (by omega)) (zSub_cons (fun _ _ h h' hk => zIR_s (zIR_e (by omega) (by omega) hk)) (zSub_cons (fun _ _ h h' hk => zIR_s (zIR_s (zIR_s (zIR_e (by omega) (by omega) hk)))) (zSub_cons (fun _ _ h h' hk => zIR_s (zIR_s (zIR_s (zIR_s (zIR_s (zIR_s (zIR_s (zIR_s (zIR_e (by omega) (by omega) hk))))))))) (zSub_cons (fun _ _ h h' hk => zIR_s (zIR_s (zIR_s (zIR_s (zIR_s (zIR_s (zIR_s (zIR_s (zIR_s (zIR_e (by omega) (by omega) hk)))))))))) (zSub_cons (fun _ _ h h' hk => zIR_s (zIR_s (zIR_s (zIR_s (zIR_s (zIR_s (zIR_s (zIR_s (zIR_s (zIR_s (zIR_e (by omega) (by omega) hk))))))))))) (zSub_cons (fun _ _ h h' hk => zIR_s (zIR_s (zIR_s (zIR_s (zIR_s (zIR_s (zIR_s (zIR_s (zIR_s (zIR_s (zIR_s (zIR_e (by omega) (by omega) hk)))))))))))) (zSub_cons (fun _ _ h h' hk => zIR_s (zIR_s (zIR_s (zIR_s (zIR_s (zIR_s (zIR_s (zIR_s (zIR_s (zIR_s (zIR_s (zIR_s (zIR_e (by omega) (by omega) hk))))))))))))) zSub_nil))))))))
          show ZW _ _ _ _ _ _ _ (48, [some (.ref 386)], [], M207)
          refine w_gt dX9_statement_48 (t := 96) rfl ?_
          refine w_en dX9_statement_96 rfl ?_
          exact ⟨_, rfl, hJ213, hb⟩
      · skip
        replace hb : zHd _ := hb.2 h164
        refine w_ine_f dX9_isWord_14 (t := 21) rfl (by omega) ?_
        refine w_ic dX9_isWord_17 zi_1 ?_
        refine w_gt dX9_isWord_18 (t := 22) rfl ?_
        refine w_en dX9_isWord_22 rfl ?_
        show ZW _ _ _ _ _ _ _ (24, [some (.ref 386)], [.int 1], M0)
        refine w_ieq_f dX9_statement_24 (t := 34) rfl (by have := zt_1; omega) ?_
        refine w_lo dX9_statement_27 rfl rfl rfl rfl ?_
        refine w_iv dX9_statement_28 rfl rfl (As := []) rfl rfl hJ0.1.1 zs_386 (Nat.le_of_ble_eq_true rfl) ?_
        obtain ⟨P216, hp217, hb⟩ := hb
        replace hb : zHd _ := hb
        refine ZV.imp (u_2325 hN hJ0.1 hp217) ?_
        rintro _ ⟨M214, rfl, hJ215, hq218⟩
        replace hb : zHd _ := hb  (zi M214) (zi_fr hJ215.2) hq218
        have hJ220 := zJ_trans hJ0 hJ215 (zSub_cons (fun _ _ h h' hk => zIR_a (by omega) (by omega)) (zSub_cons (fun _ _ h h' hk => zIR_s (zIR_e (by omega) (by omega) hk)) (zSub_cons (fun _ _ h h' hk => zIR_s (zIR_s (zIR_s (zIR_e (by omega) (by omega) hk)))) (zSub_cons (fun _ _ h h' hk => zIR_s (zIR_s (zIR_s (zIR_s (zIR_s (zIR_s (zIR_s (zIR_s (zIR_e (by omega) (by omega) hk))))))))) (zSub_cons (fun _ _ h h' hk => zIR_s (zIR_s (zIR_s (zIR_s (zIR_s (zIR_s (zIR_s (zIR_s (zIR_s (zIR_e (by omega) (by omega) hk)))))))))) (zSub_cons (fun _ _ h h' hk => zIR_s (zIR_s (zIR_s (zIR_s (zIR_s (zIR_s (zIR_s (zIR_s (zIR_s (zIR_s (zIR_e (by omega) (by omega) hk))))))))))) (zSub_cons (fun _ _ h h' hk => zIR_s (zIR_s (zIR_s (zIR_s (zIR_s (zIR_s (zIR_s (zIR_s (zIR_s (zIR_s (zIR_s (zIR_e (by omega) (by omega) hk)))))))))))) (zSub_cons (fun _ _ h h' hk => zIR_s (zIR_s (zIR_s (zIR_s (zIR_s (zIR_s (zIR_s (zIR_s (zIR_s (zIR_s (zIR_s (zIR_s (zIR_e (by omega) (by omega) hk))))))))))))) zSub_nil))))))))
        show ZW _ _ _ _ _ _ _ (31, [some (.ref 386)], [], M214)
        refine w_gt dX9_statement_31 (t := 96) rfl ?_
        refine w_en dX9_statement_96 rfl ?_
        exact ⟨_, rfl, hJ220, hb⟩
  · skip
    replace hb : zHd _ := hb.2 h5
    refine w_cne_f dX9_isWord_5 (t := 21) rfl (by have := zt_1; omega) ?_
    refine w_lo dX9_isWord_8 rfl rfl rfl rfl ?_
    refine w_gfl dX9_isWord_9 rfl hJ0.1 zs_386 (Nat.le_of_ble_eq_true rfl) zo_386_7 ?_
    intro y224 f221 h222 h223
    replace hb : zHd _ := hb y224.toInt (ziL f221)
    refine w_lo dX9_isWord_12 rfl rfl rfl rfl ?_
    refine w_lcm dX9_isWord_13 ?_
    intro x225 h226
    have := ztl_6451065
    replace hb : zHd _ := hb x225.toInt (by omega)
    rcases Int.decEq x225.toInt (0 : Int) with h227 | h227
    · skip
      replace hb : zHd _ := hb.1 h227
      refine w_ine_t dX9_isWord_14 (t := 21) rfl (by omega) ?_
      refine w_ic dX9_isWord_21 zi_0 ?_
      refine w_en dX9_isWord_22 rfl ?_
      show ZW _ _ _ _ _ _ _ (7, [some (.ref 386)], [.int 0], M0)
      refine w_ieq_t dX9_statement_7 (t := 17) rfl (by have := zt_0; omega) ?_
      refine w_lo dX9_statement_17 rfl rfl rfl rfl ?_
      refine w_me (st' := [.long (495739560811 : Int64), .ref 386]) dX9_statement_18 rfl rfl rfl rfl rfl ?_
      refine w_iv dX9_statement_21 rfl rfl (As := [.long (495739560811 : Int64)]) rfl rfl hJ0.1.1 zs_386 (Nat.le_of_ble_eq_true rfl) ?_
      refine ZV.of (ini := false) rfl (Nat.le_of_ble_eq_true rfl) (by decide +kernel) ?_
      show ZW _ _ _ _ _ _ _ (0, [some (.ref 386), some (.long (495739560811 : Int64)), none], [], M0)
      refine w_lo dX9_isWord_0 rfl rfl rfl rfl ?_
      refine w_gf dX9_isWord_1 rfl hJ0.1.1 zs_386 f2 ?_
      refine w_ic dX9_isWord_4 zi_1 ?_
      refine w_cne_f dX9_isWord_5 (t := 21) rfl (by have := zt_1; omega) ?_
      refine w_lo dX9_isWord_8 rfl rfl rfl rfl ?_
      refine w_gf dX9_isWord_9 rfl hJ0.1.1 zs_386 f221 ?_
      refine w_lo dX9_isWord_12 rfl rfl rfl rfl ?_
      refine w_lcm dX9_isWord_13 ?_
      intro x228 h229
      have := ztl_495739560811
      replace hb : zHd _ := hb x228.toInt (by omega)
      rcases Int.decEq x228.toInt (0 : Int) with h230 | h230
      · skip
        replace hb : zHd _ := hb.1 h230
        refine w_ine_t dX9_isWord_14 (t := 21) rfl (by omega) ?_
        refine w_ic dX9_isWord_21 zi_0 ?_
        refine w_en dX9_isWord_22 rfl ?_
        show ZW _ _ _ _ _ _ _ (24, [some (.ref 386)], [.int 0], M0)
        refine w_ieq_t dX9_statement_24 (t := 34) rfl (by have := zt_0; omega) ?_
        refine w_lo dX9_statement_34 rfl rfl rfl rfl ?_
        refine w_me (st' := [.long (431415976301 : Int64), .ref 386]) dX9_statement_35 rfl rfl rfl rfl rfl ?_
        refine w_iv dX9_statement_38 rfl rfl (As := [.long (431415976301 : Int64)]) rfl rfl hJ0.1.1 zs_386 (Nat.le_of_ble_eq_true rfl) ?_
        refine ZV.of (ini := false) rfl (Nat.le_of_ble_eq_true rfl) (by decide +kernel) ?_
        show ZW _ _ _ _ _ _ _ (0, [some (.ref 386), some (.long (431415976301 : Int64)), none], [], M0)
        refine w_lo dX9_isWord_0 rfl rfl rfl rfl ?_
        refine w_gf dX9_isWord_1 rfl hJ0.1.1 zs_386 f2 ?_
        refine w_ic dX9_isWord_4 zi_1 ?_
        refine w_cne_f dX9_isWord_5 (t := 21) rfl (by have := zt_1; omega) ?_
        refine w_lo dX9_isWord_8 rfl rfl rfl rfl ?_
        refine w_gf dX9_isWord_9 rfl hJ0.1.1 zs_386 f221 ?_
        refine w_lo dX9_isWord_12 rfl rfl rfl rfl ?_
        refine w_lcm dX9_isWord_13 ?_
        intro x231 h232
        have := ztl_431415976301
        replace hb : zHd _ := hb x231.toInt (by omega)
        rcases Int.decEq x231.toInt (0 : Int) with h233 | h233
        · skip
          replace hb : zHd _ := hb.1 h233
          refine w_ine_t dX9_isWord_14 (t := 21) rfl (by omega) ?_
          refine w_ic dX9_isWord_21 zi_0 ?_
          refine w_en dX9_isWord_22 rfl ?_
          show ZW _ _ _ _ _ _ _ (41, [some (.ref 386)], [.int 0], M0)
          refine w_ieq_t dX9_statement_41 (t := 51) rfl (by have := zt_0; omega) ?_
          refine w_lo dX9_statement_51 rfl rfl rfl rfl ?_
          refine w_me (st' := [.long (1885434739 : Int64), .ref 386]) dX9_statement_52 rfl rfl rfl rfl rfl ?_
          refine w_iv dX9_statement_55 rfl rfl (As := [.long (1885434739 : Int64)]) rfl rfl hJ0.1.1 zs_386 (Nat.le_of_ble_eq_true rfl) ?_
          refine ZV.of (ini := false) rfl (Nat.le_of_ble_eq_true rfl) (by decide +kernel) ?_
          show ZW _ _ _ _ _ _ _ (0, [some (.ref 386), some (.long (1885434739 : Int64)), none], [], M0)
          refine w_lo dX9_isWord_0 rfl rfl rfl rfl ?_
          refine w_gf dX9_isWord_1 rfl hJ0.1.1 zs_386 f2 ?_
          refine w_ic dX9_isWord_4 zi_1 ?_
          refine w_cne_f dX9_isWord_5 (t := 21) rfl (by have := zt_1; omega) ?_
          refine w_lo dX9_isWord_8 rfl rfl rfl rfl ?_
          refine w_gf dX9_isWord_9 rfl hJ0.1.1 zs_386 f221 ?_
          refine w_lo dX9_isWord_12 rfl rfl rfl rfl ?_
          refine w_lcm dX9_isWord_13 ?_
          intro x234 h235
          have := ztl_1885434739
          replace hb : zHd _ := hb x234.toInt (by omega)
          rcases Int.decEq x234.toInt (0 : Int) with h236 | h236
          · skip
            replace hb : zHd _ := hb.1 h236
            refine w_ine_t dX9_isWord_14 (t := 21) rfl (by omega) ?_
            refine w_ic dX9_isWord_21 zi_0 ?_
            refine w_en dX9_isWord_22 rfl ?_
            show ZW _ _ _ _ _ _ _ (58, [some (.ref 386)], [.int 0], M0)
            refine w_ieq_t dX9_statement_58 (t := 69) rfl (by have := zt_0; omega) ?_
            refine w_lo dX9_statement_69 rfl rfl rfl rfl ?_
            refine w_me (st' := [.long (1684366704 : Int64), .ref 386]) dX9_statement_70 rfl rfl rfl rfl rfl ?_
            refine w_iv dX9_statement_73 rfl rfl (As := [.long (1684366704 : Int64)]) rfl rfl hJ0.1.1 zs_386 (Nat.le_of_ble_eq_true rfl) ?_
            refine ZV.of (ini := false) rfl (Nat.le_of_ble_eq_true rfl) (by decide +kernel) ?_
            show ZW _ _ _ _ _ _ _ (0, [some (.ref 386), some (.long (1684366704 : Int64)), none], [], M0)
            refine w_lo dX9_isWord_0 rfl rfl rfl rfl ?_
            refine w_gf dX9_isWord_1 rfl hJ0.1.1 zs_386 f2 ?_
            refine w_ic dX9_isWord_4 zi_1 ?_
            refine w_cne_f dX9_isWord_5 (t := 21) rfl (by have := zt_1; omega) ?_
            refine w_lo dX9_isWord_8 rfl rfl rfl rfl ?_
            refine w_gf dX9_isWord_9 rfl hJ0.1.1 zs_386 f221 ?_
            refine w_lo dX9_isWord_12 rfl rfl rfl rfl ?_
            refine w_lcm dX9_isWord_13 ?_
            intro x237 h238
            have := ztl_1684366704
            replace hb : zHd _ := hb x237.toInt (by omega)
            rcases Int.decEq x237.toInt (0 : Int) with h239 | h239
            · skip
              replace hb : zHd _ := hb.1 h239
              refine w_ine_t dX9_isWord_14 (t := 21) rfl (by omega) ?_
              refine w_ic dX9_isWord_21 zi_0 ?_
              refine w_en dX9_isWord_22 rfl ?_
              show ZW _ _ _ _ _ _ _ (76, [some (.ref 386)], [.int 0], M0)
              refine w_ieq_t dX9_statement_76 (t := 87) rfl (by have := zt_0; omega) ?_
              refine w_lo dX9_statement_87 rfl rfl rfl rfl ?_
              refine w_ic dX9_statement_88 zi_1 ?_
              refine w_lo dX9_statement_89 rfl rfl rfl rfl ?_
              refine w_gfi dX9_statement_90 rfl hJ0.1 zs_386 (Nat.le_of_ble_eq_true rfl) zo_386_4 ?_
              intro x240 f241 h242 h243
              replace hb : zHd _ := hb x240.toInt (ziE f241) h242 h243
              refine w_iv dX9_statement_93 rfl rfl (As := [.int 1, .int x240]) rfl rfl hJ0.1.1 zs_386 (Nat.le_of_ble_eq_true rfl) ?_
              refine ZV.of (ini := false) rfl (Nat.le_of_ble_eq_true rfl) (by decide +kernel) ?_
              show ZW _ _ _ _ _ _ _ (0, [some (.ref 386), some (.int 1), some (.int x240)], [], M0)
              refine w_lo dX9_blame_0 rfl rfl rfl rfl ?_
              refine w_gfi dX9_blame_1 rfl hJ0.1 zs_386 (Nat.le_of_ble_eq_true rfl) zo_386_8 ?_
              intro x244 f245 h246 h247
              replace hb : zHd _ := hb x244.toInt (ziE f245) h246 h247
              rcases zcut (0 : Int) x244.toInt with h248 | h248
              · skip
                replace hb : zHd _ := hb.1 h248
                refine w_ile_f dX9_blame_4 (t := 8) rfl (by omega) ?_
                refine w_en dX9_blame_7 rfl ?_
                show ZW _ _ _ _ _ _ _ (96, [some (.ref 386)], [], M0)
                refine w_en dX9_statement_96 rfl ?_
                exact ⟨_, rfl, hJ0, hb⟩
              · skip
                replace hb : zHd _ := hb.2 h248
                refine w_ile_t dX9_blame_4 (t := 8) rfl (by omega) ?_
                refine w_lo dX9_blame_8 rfl rfl rfl rfl ?_
                refine w_lo dX9_blame_9 rfl rfl rfl rfl ?_
                refine w_pfi dX9_blame_10 rfl hJ0 zs_386 (Nat.le_of_ble_eq_true rfl) zo_386_8 (by have := zt_1; omega) (by have := zt_1; omega) (zIR_s (zIR_s (zIR_s (zIR_s (zIR_s (zIR_s (zIR_s (zIR_s (zIR_s (zIR_s (zIR_s (zIR_k (by omega) (by omega))))))))))))) rfl rfl rfl ?_
                intro M249 hJ250 f251 hn252
                replace hb : zHd _ := hb (zi M249) (zi_zup hn252 f251 rfl zt_1)
                refine w_lo dX9_blame_13 rfl rfl rfl rfl ?_
                refine w_lo dX9_blame_14 rfl rfl rfl rfl ?_
                refine w_pfi dX9_blame_15 rfl hJ250 zs_386 (Nat.le_of_ble_eq_true rfl) zo_386_9 (by omega) (by omega) (zIR_s (zIR_s (zIR_s (zIR_s (zIR_s (zIR_s (zIR_s (zIR_s (zIR_s (zIR_s (zIR_s (zIR_s (zIR_k (by omega) (by omega)))))))))))))) rfl rfl rfl ?_
                intro M254 hJ255 f256 hn257
                replace hb : zHd _ := hb (zi M254) (zi_zup hn257 f256 rfl rfl)
                refine w_en dX9_blame_18 rfl ?_
                show ZW _ _ _ _ _ _ _ (96, [some (.ref 386)], [], M254)
                refine w_en dX9_statement_96 rfl ?_
                exact ⟨_, rfl, hJ255, hb⟩
            · skip
              replace hb : zHd _ := hb.2 h239
              refine w_ine_f dX9_isWord_14 (t := 21) rfl (by omega) ?_
              refine w_ic dX9_isWord_17 zi_1 ?_
              refine w_gt dX9_isWord_18 (t := 22) rfl ?_
              refine w_en dX9_isWord_22 rfl ?_
              show ZW _ _ _ _ _ _ _ (76, [some (.ref 386)], [.int 1], M0)
              refine w_ieq_f dX9_statement_76 (t := 87) rfl (by have := zt_1; omega) ?_
              refine w_lo dX9_statement_79 rfl rfl rfl rfl ?_
              refine w_ic dX9_statement_80 zi_1 ?_
              refine w_iv dX9_statement_81 rfl rfl (As := [.int 1]) rfl rfl hJ0.1.1 zs_386 (Nat.le_of_ble_eq_true rfl) ?_
              obtain ⟨P261, hp262, hb⟩ := hb
              replace hb : zHd _ := hb
              have hp262c : b_2327 (zi M0) (1 : Int32).toInt P261 := by rw [zt_1]; exact hp262
              refine ZV.imp (u_2327 1 hN hJ0.1 hp262c) ?_
              rintro _ ⟨M259, rfl, hJ260, hq263⟩
              replace hb : zHd _ := hb  (zi M259) (zi_fr hJ260.2) hq263
              have hJ265 := zJ_trans hJ0 hJ260 (zSub_cons (fun _ _ h h' hk => zIR_a (by omega) (by omega)) (zSub_cons (fun _ _ h h' hk => zIR_s (zIR_e (by omega) (by omega) hk)) (zSub_cons (fun _ _ h h' hk => zIR_s (zIR_s (zIR_e (by omega) (by omega) hk))) (zSub_cons (fun _ _ h h' hk => zIR_s (zIR_s (zIR_s (zIR_e (by omega) (by omega) hk)))) (zSub_cons (fun _ _ h h' hk => zIR_s (zIR_s (zIR_s (zIR_s (zIR_e (by omega) (by omega) hk))))) (zSub_cons (fun _ _ h h' hk => zIR_s (zIR_s (zIR_s (zIR_s (zIR_s (zIR_e (by omega) (by omega) hk)))))) (zSub_cons (fun _ _ h h' hk => zIR_s (zIR_s (zIR_s (zIR_s (zIR_s (zIR_s (zIR_e (by omega) (by omega) hk))))))) (zSub_cons (fun _ _ h h' hk => zIR_s (zIR_s (zIR_s (zIR_s (zIR_s (zIR_s (zIR_s (zIR_e (by omega) (by omega) hk)))))))) (zSub_cons (fun _ _ h h' hk => zIR_s (zIR_s (zIR_s (zIR_s (zIR_s (zIR_s (zIR_s (zIR_s (zIR_e (by omega) (by omega) hk))))))))) (zSub_cons (fun _ _ h h' hk => zIR_s (zIR_s (zIR_s (zIR_s (zIR_s (zIR_s (zIR_s (zIR_s (zIR_s (zIR_e (by omega) (by omega) hk)))))))))) (zSub_cons (fun _ _ h h' hk => zIR_s (zIR_s (zIR_s (zIR_s (zIR_s (zIR_s (zIR_s (zIR_s (zIR_s (zIR_s (zIR_e (by omega) (by omega) hk))))))))))) (zSub_cons (fun _ _ h h' hk => zIR_s (zIR_s (zIR_s (zIR_s (zIR_s (zIR_s (zIR_s (zIR_s (zIR_s (zIR_s (zIR_s (zIR_e (by omega) (by omega) hk)))))))))))) (zSub_cons (fun _ _ h h' hk => zIR_s (zIR_s (zIR_s (zIR_s (zIR_s (zIR_s (zIR_s (zIR_s (zIR_s (zIR_s (zIR_s (zIR_s (zIR_e (by omega) (by omega) hk))))))))))))) zSub_nil)))))))))))))
              show ZW _ _ _ _ _ _ _ (84, [some (.ref 386)], [], M259)
              refine w_gt dX9_statement_84 (t := 96) rfl ?_
              refine w_en dX9_statement_96 rfl ?_
              exact ⟨_, rfl, hJ265, hb⟩
          · skip
            replace hb : zHd _ := hb.2 h236
            refine w_ine_f dX9_isWord_14 (t := 21) rfl (by omega) ?_
            refine w_ic dX9_isWord_17 zi_1 ?_
            refine w_gt dX9_isWord_18 (t := 22) rfl ?_
            refine w_en dX9_isWord_22 rfl ?_
            show ZW _ _ _ _ _ _ _ (58, [some (.ref 386)], [.int 1], M0)
            refine w_ieq_f dX9_statement_58 (t := 69) rfl (by have := zt_1; omega) ?_
            refine w_lo dX9_statement_61 rfl rfl rfl rfl ?_
            refine w_ic dX9_statement_62 zi_0 ?_
            refine w_iv dX9_statement_63 rfl rfl (As := [.int 0]) rfl rfl hJ0.1.1 zs_386 (Nat.le_of_ble_eq_true rfl) ?_
            obtain ⟨P268, hp269, hb⟩ := hb
            replace hb : zHd _ := hb
            have hp269c : b_2327 (zi M0) (0 : Int32).toInt P268 := by rw [zt_0]; exact hp269
            refine ZV.imp (u_2327 0 hN hJ0.1 hp269c) ?_
            rintro _ ⟨M266, rfl, hJ267, hq270⟩
            replace hb : zHd _ := hb  (zi M266) (zi_fr hJ267.2) hq270
            have hJ272 := zJ_trans hJ0 hJ267 (zSub_cons (fun _ _ h h' hk => zIR_a (by omega) (by omega)) (zSub_cons (fun _ _ h h' hk => zIR_s (zIR_e (by omega) (by omega) hk)) (zSub_cons (fun _ _ h h' hk => zIR_s (zIR_s (zIR_e (by omega) (by omega) hk))) (zSub_cons (fun _ _ h h' hk => zIR_s (zIR_s (zIR_s (zIR_e (by omega) (by omega) hk)))) (zSub_cons (fun _ _ h h' hk => zIR_s (zIR_s (zIR_s (zIR_s (zIR_e (by omega) (by omega) hk))))) (zSub_cons (fun _ _ h h' hk => zIR_s (zIR_s (zIR_s (zIR_s (zIR_s (zIR_e (by omega) (by omega) hk)))))) (zSub_cons (fun _ _ h h' hk => zIR_s (zIR_s (zIR_s (zIR_s (zIR_s (zIR_s (zIR_e (by omega) (by omega) hk))))))) (zSub_cons (fun _ _ h h' hk => zIR_s (zIR_s (zIR_s (zIR_s (zIR_s (zIR_s (zIR_s (zIR_e (by omega) (by omega) hk)))))))) (zSub_cons (fun _ _ h h' hk => zIR_s (zIR_s (zIR_s (zIR_s (zIR_s (zIR_s (zIR_s (zIR_s (zIR_e (by omega) (by omega) hk))))))))) (zSub_cons (fun _ _ h h' hk => zIR_s (zIR_s (zIR_s (zIR_s (zIR_s (zIR_s (zIR_s (zIR_s (zIR_s (zIR_e (by omega) (by omega) hk)))))))))) (zSub_cons (fun _ _ h h' hk => zIR_s (zIR_s (zIR_s (zIR_s (zIR_s (zIR_s (zIR_s (zIR_s (zIR_s (zIR_s (zIR_e (by omega) (by omega) hk))))))))))) (zSub_cons (fun _ _ h h' hk => zIR_s (zIR_s (zIR_s (zIR_s (zIR_s (zIR_s (zIR_s (zIR_s (zIR_s (zIR_s (zIR_s (zIR_e (by omega) (by omega) hk)))))))))))) (zSub_cons (fun _ _ h h' hk => zIR_s (zIR_s (zIR_s (zIR_s (zIR_s (zIR_s (zIR_s (zIR_s (zIR_s (zIR_s (zIR_s (zIR_s (zIR_e (by omega) (by omega) hk))))))))))))) zSub_nil)))))))))))))
            show ZW _ _ _ _ _ _ _ (66, [some (.ref 386)], [], M266)
            refine w_gt dX9_statement_66 (t := 96) rfl ?_
            refine w_en dX9_statement_96 rfl ?_
            exact ⟨_, rfl, hJ272, hb⟩
        · skip
          replace hb : zHd _ := hb.2 h233
          refine w_ine_f dX9_isWord_14 (t := 21) rfl (by omega) ?_
          refine w_ic dX9_isWord_17 zi_1 ?_
          refine w_gt dX9_isWord_18 (t := 22) rfl ?_
          refine w_en dX9_isWord_22 rfl ?_
          show ZW _ _ _ _ _ _ _ (41, [some (.ref 386)], [.int 1], M0)
          refine w_ieq_f dX9_statement_41 (t := 51) rfl (by have := zt_1; omega) ?_
          refine w_lo dX9_statement_44 rfl rfl rfl rfl ?_
          refine w_iv dX9_statement_45 rfl rfl (As := []) rfl rfl hJ0.1.1 zs_386 (Nat.le_of_ble_eq_true rfl) ?_
          obtain ⟨P275, hp276, hb⟩ := hb
          replace hb : zHd _ := hb
          refine ZV.imp (u_2326 hN hJ0.1 hp276) ?_
          rintro _ ⟨M273, rfl, hJ274, hq277⟩
          replace hb : zHd _ := hb  (zi M273) (zi_fr hJ274.2) hq277
          have hJ279 := zJ_trans hJ0 hJ274 (zSub_cons (fun _ _ h h' hk => zIR_a (by omega) (by omega)) (zSub_cons (fun _ _ h h' hk => zIR_s (zIR_e (by omega) (by omega) hk)) (zSub_cons (fun _ _ h h' hk => zIR_s (zIR_s (zIR_s (zIR_e (by omega) (by omega) hk)))) (zSub_cons (fun _ _ h h' hk => zIR_s (zIR_s (zIR_s (zIR_s (zIR_s (zIR_s (zIR_s (zIR_s (zIR_e (by omega) (by omega) hk))))))))) (zSub_cons (fun _ _ h h' hk => zIR_s (zIR_s (zIR_s (zIR_s (zIR_s (zIR_s (zIR_s (zIR_s (zIR_s (zIR_e (by omega) (by omega) hk)))))))))) (zSub_cons (fun _ _ h h' hk => zIR_s (zIR_s (zIR_s (zIR_s (zIR_s (zIR_s (zIR_s (zIR_s (zIR_s (zIR_s (zIR_e (by omega) (by omega) hk))))))))))) (zSub_cons (fun _ _ h h' hk => zIR_s (zIR_s (zIR_s (zIR_s (zIR_s (zIR_s (zIR_s (zIR_s (zIR_s (zIR_s (zIR_s (zIR_e (by omega) (by omega) hk)))))))))))) (zSub_cons (fun _ _ h h' hk => zIR_s (zIR_s (zIR_s (zIR_s (zIR_s (zIR_s (zIR_s (zIR_s (zIR_s (zIR_s (zIR_s (zIR_s (zIR_e (by omega) (by omega) hk))))))))))))) zSub_nil))))))))
          show ZW _ _ _ _ _ _ _ (48, [some (.ref 386)], [], M273)
          refine w_gt dX9_statement_48 (t := 96) rfl ?_
          refine w_en dX9_statement_96 rfl ?_
          exact ⟨_, rfl, hJ279, hb⟩
      · skip
        replace hb : zHd _ := hb.2 h230
        refine w_ine_f dX9_isWord_14 (t := 21) rfl (by omega) ?_
        refine w_ic dX9_isWord_17 zi_1 ?_
        refine w_gt dX9_isWord_18 (t := 22) rfl ?_
        refine w_en dX9_isWord_22 rfl ?_
        show ZW _ _ _ _ _ _ _ (24, [some (.ref 386)], [.int 1], M0)
        refine w_ieq_f dX9_statement_24 (t := 34) rfl (by have := zt_1; omega) ?_
        refine w_lo dX9_statement_27 rfl rfl rfl rfl ?_
        refine w_iv dX9_statement_28 rfl rfl (As := []) rfl rfl hJ0.1.1 zs_386 (Nat.le_of_ble_eq_true rfl) ?_
        obtain ⟨P282, hp283, hb⟩ := hb
        replace hb : zHd _ := hb
        refine ZV.imp (u_2325 hN hJ0.1 hp283) ?_
        rintro _ ⟨M280, rfl, hJ281, hq284⟩
        replace hb : zHd _ := hb  (zi M280) (zi_fr hJ281.2) hq284
        have hJ286 := zJ_trans hJ0 hJ281 (zSub_cons (fun _ _ h h' hk => zIR_a (by omega) (by omega)) (zSub_cons (fun _ _ h h' hk => zIR_s (zIR_e (by omega) (by omega) hk)) (zSub_cons (fun _ _ h h' hk => zIR_s (zIR_s (zIR_s (zIR_e (by omega) (by omega) hk)))) (zSub_cons (fun _ _ h h' hk => zIR_s (zIR_s (zIR_s (zIR_s (zIR_s (zIR_s (zIR_s (zIR_s (zIR_e (by omega) (by omega) hk))))))))) (zSub_cons (fun _ _ h h' hk => zIR_s (zIR_s (zIR_s (zIR_s (zIR_s (zIR_s (zIR_s (zIR_s (zIR_s (zIR_e (by omega) (by omega) hk)))))))))) (zSub_cons (fun _ _ h h' hk => zIR_s (zIR_s (zIR_s (zIR_s (zIR_s (zIR_s (zIR_s (zIR_s (zIR_s (zIR_s (zIR_e (by omega) (by omega) hk))))))))))) (zSub_cons (fun _ _ h h' hk => zIR_s (zIR_s (zIR_s (zIR_s (zIR_s (zIR_s (zIR_s (zIR_s (zIR_s (zIR_s (zIR_s (zIR_e (by omega) (by omega) hk)))))))))))) (zSub_cons (fun _ _ h h' hk => zIR_s (zIR_s (zIR_s (zIR_s (zIR_s (zIR_s (zIR_s (zIR_s (zIR_s (zIR_s (zIR_s (zIR_s (zIR_e (by omega) (by omega) hk))))))))))))) zSub_nil))))))))
        show ZW _ _ _ _ _ _ _ (31, [some (.ref 386)], [], M280)
        refine w_gt dX9_statement_31 (t := 96) rfl ?_
        refine w_en dX9_statement_96 rfl ?_
        exact ⟨_, rfl, hJ286, hb⟩
    · skip
      replace hb : zHd _ := hb.2 h227
      refine w_ine_f dX9_isWord_14 (t := 21) rfl (by omega) ?_
      refine w_ic dX9_isWord_17 zi_1 ?_
      refine w_gt dX9_isWord_18 (t := 22) rfl ?_
      refine w_en dX9_isWord_22 rfl ?_
      show ZW _ _ _ _ _ _ _ (7, [some (.ref 386)], [.int 1], M0)
      refine w_ieq_f dX9_statement_7 (t := 17) rfl (by have := zt_1; omega) ?_
      refine w_lo dX9_statement_10 rfl rfl rfl rfl ?_
      refine w_iv dX9_statement_11 rfl rfl (As := []) rfl rfl hJ0.1.1 zs_386 (Nat.le_of_ble_eq_true rfl) ?_
      obtain ⟨P289, hp290, hb⟩ := hb
      replace hb : zHd _ := hb
      refine ZV.imp (u_2316 hN hJ0.1 hp290) ?_
      rintro _ ⟨M287, rfl, hJ288, hq291⟩
      replace hb : zHd _ := hb  (zi M287) (zi_fr hJ288.2) hq291
      have hJ293 := zJ_trans hJ0 hJ288 (zSub_cons (fun _ _ h h' hk => zIR_a (by omega) (by omega)) (zSub_cons (fun _ _ h h' hk => zIR_s (zIR_e (by omega) (by omega) hk)) (zSub_cons (fun _ _ h h' hk => zIR_s (zIR_s (zIR_s (zIR_e (by omega) (by omega) hk)))) (zSub_cons (fun _ _ h h' hk => zIR_s (zIR_s (zIR_s (zIR_s (zIR_s (zIR_s (zIR_s (zIR_s (zIR_e (by omega) (by omega) hk))))))))) (zSub_cons (fun _ _ h h' hk => zIR_s (zIR_s (zIR_s (zIR_s (zIR_s (zIR_s (zIR_s (zIR_s (zIR_s (zIR_e (by omega) (by omega) hk)))))))))) (zSub_cons (fun _ _ h h' hk => zIR_s (zIR_s (zIR_s (zIR_s (zIR_s (zIR_s (zIR_s (zIR_s (zIR_s (zIR_s (zIR_e (by omega) (by omega) hk))))))))))) (zSub_cons (fun _ _ h h' hk => zIR_s (zIR_s (zIR_s (zIR_s (zIR_s (zIR_s (zIR_s (zIR_s (zIR_s (zIR_s (zIR_s (zIR_e (by omega) (by omega) hk)))))))))))) (zSub_cons (fun _ _ h h' hk => zIR_s (zIR_s (zIR_s (zIR_s (zIR_s (zIR_s (zIR_s (zIR_s (zIR_s (zIR_s (zIR_s (zIR_s (zIR_e (by omega) (by omega) hk))))))))))))) zSub_nil))))))))
      show ZW _ _ _ _ _ _ _ (14, [some (.ref 386)], [], M287)
      refine w_gt dX9_statement_14 (t := 96) rfl ?_
      refine w_en dX9_statement_96 rfl ?_
      exact ⟨_, rfl, hJ293, hb⟩
set_option maxRecDepth 100000 in
theorem u_2340 {X : List Int32} {d N : Nat} {M0 : zM} (a0 : Int32) (hN : N ≤ 600) (hB0 : zB N M0) {Q : zF → Prop} (hb : b_2340 (zi M0) a0.toInt Q) : ZV X (d + 3) 2340 [.ref 386, .int a0] M0 (zRV N [(386, 387, 3), (386, 387, 4), (386, 387, 5), (386, 387, 6), (386, 387, 7), (386, 387, 8), (386, 387, 9)] M0 (fun M' => Q (zi M'))) := by
  have hJ0 : zJ N [(386, 387, 3), (386, 387, 4), (386, 387, 5), (386, 387, 6), (386, 387, 7), (386, 387, 8), (386, 387, 9)] M0 M0 := zJ_refl hB0
  refine ZV.of (ini := false) rfl (Nat.le_of_ble_eq_true rfl) (by decide +kernel) ?_
  unfold b_2340 at hb
  replace hb : zHd _ := hb
  show ZW _ _ _ _ _ _ _ (0, [some (.ref 386), some (.int a0)], [], M0)
  refine w_lo dX9_must_0 rfl rfl rfl rfl ?_
  refine w_lo dX9_must_1 rfl rfl rfl rfl ?_
  refine w_iv dX9_must_2 rfl rfl (As := [.int a0]) rfl rfl hJ0.1.1 zs_386 (Nat.le_of_ble_eq_true rfl) ?_
  refine ZV.of (ini := false) rfl (Nat.le_of_ble_eq_true rfl) (by decide +kernel) ?_
  show ZW _ _ _ _ _ _ _ (0, [some (.ref 386), some (.int a0)], [], M0)
  refine w_lo dX9_isSign_0 rfl rfl rfl rfl ?_
  refine w_gfi dX9_isSign_1 rfl hJ0.1 zs_386 (Nat.le_of_ble_eq_true rfl) zo_386_3 ?_
  intro x1 f2 h3 h4
  replace hb : zHd _ := hb x1.toInt (ziE f2) h3 h4
  refine w_ic dX9_isSign_4 zi_3 ?_
  rcases Int.decEq x1.toInt (3 : Int) with h5 | h5
  · skip
    replace hb : zHd _ := hb.1 h5
    refine w_cne_t dX9_isSign_5 (t := 20) rfl (by have := zt_3; omega) ?_
    refine w_ic dX9_isSign_20 zi_0 ?_
    refine w_en dX9_isSign_21 rfl ?_
    show ZW _ _ _ _ _ _ _ (5, [some (.ref 386), some (.int a0)], [.int 0], M0)
    refine w_ine_f dX9_must_5 (t := 17) rfl (by have := zt_0; omega) ?_
    refine w_lo dX9_must_8 rfl rfl rfl rfl ?_
    refine w_ic dX9_must_9 zi_1 ?_
    refine w_lo dX9_must_10 rfl rfl rfl rfl ?_
    refine w_gfi dX9_must_11 rfl hJ0.1 zs_386 (Nat.le_of_ble_eq_true rfl) zo_386_4 ?_
    intro x6 f7 h8 h9
    replace hb : zHd _ := hb x6.toInt (ziE f7) h8 h9
    refine w_iv dX9_must_14 rfl rfl (As := [.int 1, .int x6]) rfl rfl hJ0.1.1 zs_386 (Nat.le_of_ble_eq_true rfl) ?_
    refine ZV.of (ini := false) rfl (Nat.le_of_ble_eq_true rfl) (by decide +kernel) ?_
    show ZW _ _ _ _ _ _ _ (0, [some (.ref 386), some (.int 1), some (.int x6)], [], M0)
    refine w_lo dX9_blame_0 rfl rfl rfl rfl ?_
    refine w_gfi dX9_blame_1 rfl hJ0.1 zs_386 (Nat.le_of_ble_eq_true rfl) zo_386_8 ?_
    intro x10 f11 h12 h13
    replace hb : zHd _ := hb x10.toInt (ziE f11) h12 h13
    rcases zcut (0 : Int) x10.toInt with h14 | h14
    · skip
      replace hb : zHd _ := hb.1 h14
      refine w_ile_f dX9_blame_4 (t := 8) rfl (by omega) ?_
      refine w_en dX9_blame_7 rfl ?_
      show ZW _ _ _ _ _ _ _ (17, [some (.ref 386), some (.int a0)], [], M0)
      refine w_lo dX9_must_17 rfl rfl rfl rfl ?_
      refine w_gf dX9_must_18 rfl hJ0.1.1 zs_386 f11 ?_
      refine w_ine_t dX9_must_21 (t := 28) rfl (by omega) ?_
      refine w_en dX9_must_28 rfl ?_
      exact ⟨_, rfl, hJ0, hb⟩
    · skip
      replace hb : zHd _ := hb.2 h14
      refine w_ile_t dX9_blame_4 (t := 8) rfl (by omega) ?_
      refine w_lo dX9_blame_8 rfl rfl rfl rfl ?_
      refine w_lo dX9_blame_9 rfl rfl rfl rfl ?_
      refine w_pfi dX9_blame_10 rfl hJ0 zs_386 (Nat.le_of_ble_eq_true rfl) zo_386_8 (by have := zt_1; omega) (by have := zt_1; omega) (zIR_s (zIR_s (zIR_s (zIR_s (zIR_s (zIR_k (by omega) (by omega))))))) rfl rfl rfl ?_
      intro M15 hJ16 f17 hn18
      replace hb : zHd _ := hb (zi M15) (zi_zup hn18 f17 rfl zt_1)
      refine w_lo dX9_blame_13 rfl rfl rfl rfl ?_
      refine w_lo dX9_blame_14 rfl rfl rfl rfl ?_
      refine w_pfi dX9_blame_15 rfl hJ16 zs_386 (Nat.le_of_ble_eq_true rfl) zo_386_9 (by omega) (by omega) (zIR_s (zIR_s (zIR_s (zIR_s (zIR_s (zIR_s (zIR_k (by omega) (by omega)))))))) rfl rfl rfl ?_
      intro M20 hJ21 f22 hn23
      replace hb : zHd _ := hb (zi M20) (zi_zup hn23 f22 rfl rfl)
      refine w_en dX9_blame_18 rfl ?_
      show ZW _ _ _ _ _ _ _ (17, [some (.ref 386), some (.int a0)], [], M20)
      refine w_lo dX9_must_17 rfl rfl rfl rfl ?_
      have f25 := (hn23 (386) 8 (Or.inr (by decide))).trans (f17)
      refine w_gf dX9_must_18 rfl hJ21.1.1 zs_386 f25 ?_
      refine w_ine_t dX9_must_21 (t := 28) rfl (by have := zt_1; omega) ?_
      refine w_en dX9_must_28 rfl ?_
      exact ⟨_, rfl, hJ21, hb⟩
  · skip
    replace hb : zHd _ := hb.2 h5
    refine w_cne_f dX9_isSign_5 (t := 20) rfl (by have := zt_3; omega) ?_
    refine w_lo dX9_isSign_8 rfl rfl rfl rfl ?_
    refine w_gfi dX9_isSign_9 rfl hJ0.1 zs_386 (Nat.le_of_ble_eq_true rfl) zo_386_6 ?_
    intro x26 f27 h28 h29
    replace hb : zHd _ := hb x26.toInt (ziE f27)
    refine w_lo dX9_isSign_12 rfl rfl rfl rfl ?_
    rcases Int.decEq x26.toInt a0.toInt with h30 | h30
    · skip
      replace hb : zHd _ := hb.1 h30
      refine w_cne_t dX9_isSign_13 (t := 20) rfl (by omega) ?_
      refine w_ic dX9_isSign_20 zi_0 ?_
      refine w_en dX9_isSign_21 rfl ?_
      show ZW _ _ _ _ _ _ _ (5, [some (.ref 386), some (.int a0)], [.int 0], M0)
      refine w_ine_f dX9_must_5 (t := 17) rfl (by have := zt_0; omega) ?_
      refine w_lo dX9_must_8 rfl rfl rfl rfl ?_
      refine w_ic dX9_must_9 zi_1 ?_
      refine w_lo dX9_must_10 rfl rfl rfl rfl ?_
      refine w_gfi dX9_must_11 rfl hJ0.1 zs_386 (Nat.le_of_ble_eq_true rfl) zo_386_4 ?_
      intro x31 f32 h33 h34
      replace hb : zHd _ := hb x31.toInt (ziE f32) h33 h34
      refine w_iv dX9_must_14 rfl rfl (As := [.int 1, .int x31]) rfl rfl hJ0.1.1 zs_386 (Nat.le_of_ble_eq_true rfl) ?_
      refine ZV.of (ini := false) rfl (Nat.le_of_ble_eq_true rfl) (by decide +kernel) ?_
      show ZW _ _ _ _ _ _ _ (0, [some (.ref 386), some (.int 1), some (.int x31)], [], M0)
      refine w_lo dX9_blame_0 rfl rfl rfl rfl ?_
      refine w_gfi dX9_blame_1 rfl hJ0.1 zs_386 (Nat.le_of_ble_eq_true rfl) zo_386_8 ?_
      intro x35 f36 h37 h38
      replace hb : zHd _ := hb x35.toInt (ziE f36) h37 h38
      rcases zcut (0 : Int) x35.toInt with h39 | h39
      · skip
        replace hb : zHd _ := hb.1 h39
        refine w_ile_f dX9_blame_4 (t := 8) rfl (by omega) ?_
        refine w_en dX9_blame_7 rfl ?_
        show ZW _ _ _ _ _ _ _ (17, [some (.ref 386), some (.int a0)], [], M0)
        refine w_lo dX9_must_17 rfl rfl rfl rfl ?_
        refine w_gf dX9_must_18 rfl hJ0.1.1 zs_386 f36 ?_
        refine w_ine_t dX9_must_21 (t := 28) rfl (by omega) ?_
        refine w_en dX9_must_28 rfl ?_
        exact ⟨_, rfl, hJ0, hb⟩
      · skip
        replace hb : zHd _ := hb.2 h39
        refine w_ile_t dX9_blame_4 (t := 8) rfl (by omega) ?_
        refine w_lo dX9_blame_8 rfl rfl rfl rfl ?_
        refine w_lo dX9_blame_9 rfl rfl rfl rfl ?_
        refine w_pfi dX9_blame_10 rfl hJ0 zs_386 (Nat.le_of_ble_eq_true rfl) zo_386_8 (by have := zt_1; omega) (by have := zt_1; omega) (zIR_s (zIR_s (zIR_s (zIR_s (zIR_s (zIR_k (by omega) (by omega))))))) rfl rfl rfl ?_
        intro M40 hJ41 f42 hn43
        replace hb : zHd _ := hb (zi M40) (zi_zup hn43 f42 rfl zt_1)
        refine w_lo dX9_blame_13 rfl rfl rfl rfl ?_
        refine w_lo dX9_blame_14 rfl rfl rfl rfl ?_
        refine w_pfi dX9_blame_15 rfl hJ41 zs_386 (Nat.le_of_ble_eq_true rfl) zo_386_9 (by omega) (by omega) (zIR_s (zIR_s (zIR_s (zIR_s (zIR_s (zIR_s (zIR_k (by omega) (by omega)))))))) rfl rfl rfl ?_
        intro M45 hJ46 f47 hn48
        replace hb : zHd _ := hb (zi M45) (zi_zup hn48 f47 rfl rfl)
        refine w_en dX9_blame_18 rfl ?_
        show ZW _ _ _ _ _ _ _ (17, [some (.ref 386), some (.int a0)], [], M45)
        refine w_lo dX9_must_17 rfl rfl rfl rfl ?_
        have f50 := (hn48 (386) 8 (Or.inr (by decide))).trans (f42)
        refine w_gf dX9_must_18 rfl hJ46.1.1 zs_386 f50 ?_
        refine w_ine_t dX9_must_21 (t := 28) rfl (by have := zt_1; omega) ?_
        refine w_en dX9_must_28 rfl ?_
        exact ⟨_, rfl, hJ46, hb⟩
    · skip
      replace hb : zHd _ := hb.2 h30
      refine w_cne_f dX9_isSign_13 (t := 20) rfl (by omega) ?_
      refine w_ic dX9_isSign_16 zi_1 ?_
      refine w_gt dX9_isSign_17 (t := 21) rfl ?_
      refine w_en dX9_isSign_21 rfl ?_
      show ZW _ _ _ _ _ _ _ (5, [some (.ref 386), some (.int a0)], [.int 1], M0)
      refine w_ine_t dX9_must_5 (t := 17) rfl (by have := zt_1; omega) ?_
      refine w_lo dX9_must_17 rfl rfl rfl rfl ?_
      refine w_gfi dX9_must_18 rfl hJ0.1 zs_386 (Nat.le_of_ble_eq_true rfl) zo_386_8 ?_
      intro x51 f52 h53 h54
      replace hb : zHd _ := hb x51.toInt (ziE f52) h53 h54
      rcases Int.decEq x51.toInt (0 : Int) with h55 | h55
      · skip
        replace hb : zHd _ := hb.1 h55
        refine w_ine_t dX9_must_21 (t := 28) rfl (by omega) ?_
        refine w_en dX9_must_28 rfl ?_
        exact ⟨_, rfl, hJ0, hb⟩
      · skip
        replace hb : zHd _ := hb.2 h55
        refine w_ine_f dX9_must_21 (t := 28) rfl (by omega) ?_
        refine w_lo dX9_must_24 rfl rfl rfl rfl ?_
        refine w_iv dX9_must_25 rfl rfl (As := []) rfl rfl hJ0.1.1 zs_386 (Nat.le_of_ble_eq_true rfl) ?_
        obtain ⟨P58, hp59, hb⟩ := hb
        replace hb : zHd _ := hb
        refine ZV.imp (u_2310 hN hJ0.1 hp59) ?_
        rintro _ ⟨M56, rfl, hJ57, hq60⟩
        replace hb : zHd _ := hb  (zi M56) (zi_fr hJ57.2) hq60
        have hJ62 := zJ_trans hJ0 hJ57 (zSub_cons (fun _ _ h h' hk => zIR_e (by omega) (by omega) hk) (zSub_cons (fun _ _ h h' hk => zIR_s (zIR_e (by omega) (by omega) hk)) (zSub_cons (fun _ _ h h' hk => zIR_s (zIR_s (zIR_e (by omega) (by omega) hk))) (zSub_cons (fun _ _ h h' hk => zIR_s (zIR_s (zIR_s (zIR_e (by omega) (by omega) hk)))) (zSub_cons (fun _ _ h h' hk => zIR_s (zIR_s (zIR_s (zIR_s (zIR_e (by omega) (by omega) hk))))) (zSub_cons (fun _ _ h h' hk => zIR_s (zIR_s (zIR_s (zIR_s (zIR_s (zIR_e (by omega) (by omega) hk)))))) (zSub_cons (fun _ _ h h' hk => zIR_s (zIR_s (zIR_s (zIR_s (zIR_s (zIR_s (zIR_e (by omega) (by omega) hk))))))) zSub_nil)))))))
        show ZW _ _ _ _ _ _ _ (28, [some (.ref 386), some (.int a0)], [], M56)
        refine w_en dX9_must_28 rfl ?_
        exact ⟨_, rfl, hJ62, hb⟩
set_option maxRecDepth 100000 in
theorem u_2339 {X : List Int32} {d N : Nat} {M0 : zM} (a0 : Int32) (hN : N ≤ 600) (hB0 : zB N M0) {Q : zF → Prop} (hb : b_2339 (zi M0) a0.toInt Q) : ZV X (d + 4) 2339 [.ref 386, .int a0] M0 (zRV N [(386, 387, 3), (386, 387, 4), (386, 387, 5), (386, 387, 6), (386, 387, 7), (386, 387, 8), (386, 387, 9)] M0 (fun M' => Q (zi M'))) := by
  have hJ0 : zJ N [(386, 387, 3), (386, 387, 4), (386, 387, 5), (386, 387, 6), (386, 387, 7), (386, 387, 8), (386, 387, 9)] M0 M0 := zJ_refl hB0
  refine ZV.of (ini := false) rfl (Nat.le_of_ble_eq_true rfl) (by decide +kernel) ?_
  obtain ⟨I13, hbE, hb13⟩ := hb
  replace hbE : zHd _ := hbE
  replace hb13 : zHd _ := hb13
  have main : ∀ n : Nat,
      (∀ (M : zM) (v13_1 : Int32) (v13_2 : Int32), zJ N [(386, 387, 3), (386, 387, 4), (386, 387, 5), (386, 387, 6), (386, 387, 7), (386, 387, 8), (386, 387, 9)] M0 M → ((-2147483648 : Int) ≤ v13_1.toInt) → (v13_1.toInt ≤ 2147483647) → ((0 : Int) ≤ v13_2.toInt) → (v13_2.toInt ≤ 1600) → I13 n (zi M) v13_1.toInt v13_2.toInt → ZW X (d + 3) 9 false none cX9_ends (zRV N [(386, 387, 3), (386, 387, 4), (386, 387, 5), (386, 387, 6), (386, 387, 7), (386, 387, 8), (386, 387, 9)] M0 (fun M' => Q (zi M'))) (13, [some (.ref 386), some (.int v13_1), some (.int v13_2)], [], M)) := by
    intro n
    induction n using Nat.strongRecOn with
    | _ n ih =>
      · intro M v13_1 v13_2 hJ v13_10 v13_11 v13_20 v13_21 hI
        have hb : zHd _ := hb13 n (zi M) v13_1.toInt v13_2.toInt (zi_fr hJ.2) v13_20 v13_21 hI
        refine w_lo dX9_ends_13 rfl rfl rfl rfl ?_
        refine w_lo dX9_ends_14 rfl rfl rfl rfl ?_
        refine w_gfi dX9_ends_15 rfl hJ.1 zs_386 (Nat.le_of_ble_eq_true rfl) zo_386_2 ?_
        intro x1 f2 h3 h4
        replace hb : zHd _ := hb x1.toInt (ziE f2) h3 h4
        rcases zcut v13_2.toInt x1.toInt with h5 | h5
        · skip
          replace hb : zHd _ := hb.1 h5
          refine w_cge_f dX9_ends_18 (t := 49) rfl (by omega) ?_
          refine w_lo dX9_ends_21 rfl rfl rfl rfl ?_
          refine w_gf dX9_ends_22 rfl hJ.1.1 zs_386 (zr_386_0 hJ.1) ?_
          refine w_lo dX9_ends_25 rfl rfl rfl rfl ?_
          refine w_iai dX9_ends_26 hJ.1 zs_387 (by omega) (by omega) zu_387 ?_
          intro x9 f6 h7 h8
          replace hb : zHd _ := hb x9.toInt (ziEk f6 rfl) h7 h8
          refine w_bi dX9_ends_27 (c := 32) (by decide) ?_
          rcases Int.decEq x9.toInt (32 : Int) with h10 | h10
          · skip
            replace hb : zHd _ := hb.1 h10
            refine w_ceq_f dX9_ends_29 (t := 43) rfl (by have := zt_32; omega) ?_
            refine w_lo dX9_ends_32 rfl rfl rfl rfl ?_
            refine w_gf dX9_ends_33 rfl hJ.1.1 zs_386 (zr_386_0 hJ.1) ?_
            refine w_lo dX9_ends_36 rfl rfl rfl rfl ?_
            refine w_ia dX9_ends_37 hJ.1.1 zs_387 (znat (by omega)) f6 ?_
            refine w_bi dX9_ends_38 (c := 10) (by decide) ?_
            rcases Int.decEq x9.toInt (10 : Int) with h14 | h14
            · skip
              replace hb : zHd _ := hb.1 h14
              refine w_cne_t dX9_ends_40 (t := 49) rfl (by have := zt_10; omega) ?_
              refine w_lo dX9_ends_49 rfl rfl rfl rfl ?_
              refine w_bi dX9_ends_50 (c := 59) (by decide) ?_
              refine w_iv dX9_ends_52 rfl rfl (As := [.int 59]) rfl rfl hJ.1.1 zs_386 (Nat.le_of_ble_eq_true rfl) ?_
              refine ZV.of (ini := false) rfl (Nat.le_of_ble_eq_true rfl) (by decide +kernel) ?_
              show ZW _ _ _ _ _ _ _ (0, [some (.ref 386), some (.int 59)], [], M)
              refine w_lo dX9_isSign_0 rfl rfl rfl rfl ?_
              refine w_gfi dX9_isSign_1 rfl hJ.1 zs_386 (Nat.le_of_ble_eq_true rfl) zo_386_3 ?_
              intro x15 f16 h17 h18
              replace hb : zHd _ := hb x15.toInt (ziE f16) h17 h18
              refine w_ic dX9_isSign_4 zi_3 ?_
              rcases Int.decEq x15.toInt (3 : Int) with h19 | h19
              · skip
                replace hb : zHd _ := hb.1 h19
                refine w_cne_t dX9_isSign_5 (t := 20) rfl (by have := zt_3; omega) ?_
                refine w_ic dX9_isSign_20 zi_0 ?_
                refine w_en dX9_isSign_21 rfl ?_
                show ZW _ _ _ _ _ _ _ (55, [some (.ref 386), some (.int v13_1), some (.int v13_2)], [.int 0], M)
                refine w_ieq_t dX9_ends_55 (t := 78) rfl (by have := zt_0; omega) ?_
                refine w_lo dX9_ends_78 rfl rfl rfl rfl ?_
                refine w_bi dX9_ends_79 (c := 59) (by decide) ?_
                refine w_iv dX9_ends_81 rfl rfl (As := [.int 59]) rfl rfl hJ.1.1 zs_386 (Nat.le_of_ble_eq_true rfl) ?_
                obtain ⟨P22, hp23, hb⟩ := hb
                replace hb : zHd _ := hb
                have hp23c : b_2340 (zi M) (59 : Int32).toInt P22 := by rw [zt_59]; exact hp23
                refine ZV.imp (u_2340 59 hN hJ.1 hp23c) ?_
                rintro _ ⟨M20, rfl, hJ21, hq24⟩
                replace hb : zHd _ := hb  (zi M20) (zi_fr hJ21.2) hq24
                have hJ26 := zJ_trans hJ hJ21 (zSub_cons (fun _ _ h h' hk => zIR_e (by omega) (by omega) hk) (zSub_cons (fun _ _ h h' hk => zIR_s (zIR_e (by omega) (by omega) hk)) (zSub_cons (fun _ _ h h' hk => zIR_s (zIR_s (zIR_e (by omega) (by omega) hk))) (zSub_cons (fun _ _ h h' hk => zIR_s (zIR_s (zIR_s (zIR_e (by omega) (by omega) hk)))) (zSub_cons (fun _ _ h h' hk => zIR_s (zIR_s (zIR_s (zIR_s (zIR_e (by omega) (by omega) hk))))) (zSub_cons (fun _ _ h h' hk => zIR_s (zIR_s (zIR_s (zIR_s (zIR_s (zIR_e (by omega) (by omega) hk)))))) (zSub_cons (fun _ _ h h' hk => zIR_s (zIR_s (zIR_s (zIR_s (zIR_s (zIR_s (zIR_e (by omega) (by omega) hk))))))) zSub_nil)))))))
                show ZW _ _ _ _ _ _ _ (84, [some (.ref 386), some (.int v13_1), some (.int v13_2)], [], M20)
                refine w_en dX9_ends_84 rfl ?_
                exact ⟨_, rfl, hJ26, hb⟩
              · skip
                replace hb : zHd _ := hb.2 h19
                refine w_cne_f dX9_isSign_5 (t := 20) rfl (by have := zt_3; omega) ?_
                refine w_lo dX9_isSign_8 rfl rfl rfl rfl ?_
                refine w_gfi dX9_isSign_9 rfl hJ.1 zs_386 (Nat.le_of_ble_eq_true rfl) zo_386_6 ?_
                intro x27 f28 h29 h30
                replace hb : zHd _ := hb x27.toInt (ziE f28)
                refine w_lo dX9_isSign_12 rfl rfl rfl rfl ?_
                rcases Int.decEq x27.toInt (59 : Int) with h31 | h31
                · skip
                  replace hb : zHd _ := hb.1 h31
                  refine w_cne_t dX9_isSign_13 (t := 20) rfl (by have := zt_59; omega) ?_
                  refine w_ic dX9_isSign_20 zi_0 ?_
                  refine w_en dX9_isSign_21 rfl ?_
                  show ZW _ _ _ _ _ _ _ (55, [some (.ref 386), some (.int v13_1), some (.int v13_2)], [.int 0], M)
                  refine w_ieq_t dX9_ends_55 (t := 78) rfl (by have := zt_0; omega) ?_
                  refine w_lo dX9_ends_78 rfl rfl rfl rfl ?_
                  refine w_bi dX9_ends_79 (c := 59) (by decide) ?_
                  refine w_iv dX9_ends_81 rfl rfl (As := [.int 59]) rfl rfl hJ.1.1 zs_386 (Nat.le_of_ble_eq_true rfl) ?_
                  obtain ⟨P34, hp35, hb⟩ := hb
                  replace hb : zHd _ := hb
                  have hp35c : b_2340 (zi M) (59 : Int32).toInt P34 := by rw [zt_59]; exact hp35
                  refine ZV.imp (u_2340 59 hN hJ.1 hp35c) ?_
                  rintro _ ⟨M32, rfl, hJ33, hq36⟩
                  replace hb : zHd _ := hb  (zi M32) (zi_fr hJ33.2) hq36
                  have hJ38 := zJ_trans hJ hJ33 (zSub_cons (fun _ _ h h' hk => zIR_e (by omega) (by omega) hk) (zSub_cons (fun _ _ h h' hk => zIR_s (zIR_e (by omega) (by omega) hk)) (zSub_cons (fun _ _ h h' hk => zIR_s (zIR_s (zIR_e (by omega) (by omega) hk))) (zSub_cons (fun _ _ h h' hk => zIR_s (zIR_s (zIR_s (zIR_e (by omega) (by omega) hk)))) (zSub_cons (fun _ _ h h' hk => zIR_s (zIR_s (zIR_s (zIR_s (zIR_e (by omega) (by omega) hk))))) (zSub_cons (fun _ _ h h' hk => zIR_s (zIR_s (zIR_s (zIR_s (zIR_s (zIR_e (by omega) (by omega) hk)))))) (zSub_cons (fun _ _ h h' hk => zIR_s (zIR_s (zIR_s (zIR_s (zIR_s (zIR_s (zIR_e (by omega) (by omega) hk))))))) zSub_nil)))))))
                  show ZW _ _ _ _ _ _ _ (84, [some (.ref 386), some (.int v13_1), some (.int v13_2)], [], M32)
                  refine w_en dX9_ends_84 rfl ?_
                  exact ⟨_, rfl, hJ38, hb⟩
                · skip
                  replace hb : zHd _ := hb.2 h31
                  refine w_cne_f dX9_isSign_13 (t := 20) rfl (by have := zt_59; omega) ?_
                  refine w_ic dX9_isSign_16 zi_1 ?_
                  refine w_gt dX9_isSign_17 (t := 21) rfl ?_
                  refine w_en dX9_isSign_21 rfl ?_
                  show ZW _ _ _ _ _ _ _ (55, [some (.ref 386), some (.int v13_1), some (.int v13_2)], [.int 1], M)
                  refine w_ieq_f dX9_ends_55 (t := 78) rfl (by have := zt_1; omega) ?_
                  refine w_lo dX9_ends_58 rfl rfl rfl rfl ?_
                  refine w_bi dX9_ends_59 (c := 90) (by decide) ?_
                  rcases Int.decEq v13_1.toInt (90 : Int) with h39 | h39
                  · skip
                    replace hb : zHd _ := hb.1 h39
                    refine w_cne_t dX9_ends_61 (t := 78) rfl (by have := zt_90; omega) ?_
                    refine w_lo dX9_ends_78 rfl rfl rfl rfl ?_
                    refine w_bi dX9_ends_79 (c := 59) (by decide) ?_
                    refine w_iv dX9_ends_81 rfl rfl (As := [.int 59]) rfl rfl hJ.1.1 zs_386 (Nat.le_of_ble_eq_true rfl) ?_
                    obtain ⟨P42, hp43, hb⟩ := hb
                    replace hb : zHd _ := hb
                    have hp43c : b_2340 (zi M) (59 : Int32).toInt P42 := by rw [zt_59]; exact hp43
                    refine ZV.imp (u_2340 59 hN hJ.1 hp43c) ?_
                    rintro _ ⟨M40, rfl, hJ41, hq44⟩
                    replace hb : zHd _ := hb  (zi M40) (zi_fr hJ41.2) hq44
                    have hJ46 := zJ_trans hJ hJ41 (zSub_cons (fun _ _ h h' hk => zIR_e (by omega) (by omega) hk) (zSub_cons (fun _ _ h h' hk => zIR_s (zIR_e (by omega) (by omega) hk)) (zSub_cons (fun _ _ h h' hk => zIR_s (zIR_s (zIR_e (by omega) (by omega) hk))) (zSub_cons (fun _ _ h h' hk => zIR_s (zIR_s (zIR_s (zIR_e (by omega) (by omega) hk)))) (zSub_cons (fun _ _ h h' hk => zIR_s (zIR_s (zIR_s (zIR_s (zIR_e (by omega) (by omega) hk))))) (zSub_cons (fun _ _ h h' hk => zIR_s (zIR_s (zIR_s (zIR_s (zIR_s (zIR_e (by omega) (by omega) hk)))))) (zSub_cons (fun _ _ h h' hk => zIR_s (zIR_s (zIR_s (zIR_s (zIR_s (zIR_s (zIR_e (by omega) (by omega) hk))))))) zSub_nil)))))))
                    show ZW _ _ _ _ _ _ _ (84, [some (.ref 386), some (.int v13_1), some (.int v13_2)], [], M40)
                    refine w_en dX9_ends_84 rfl ?_
                    exact ⟨_, rfl, hJ46, hb⟩
                  · skip
                    replace hb : zHd _ := hb.2 h39
                    refine w_cne_f dX9_ends_61 (t := 78) rfl (by have := zt_90; omega) ?_
                    refine w_lo dX9_ends_64 rfl rfl rfl rfl ?_
                    refine w_lo dX9_ends_65 rfl rfl rfl rfl ?_
                    refine w_gf dX9_ends_66 rfl hJ.1.1 zs_386 f2 ?_
                    rcases zcut v13_2.toInt x1.toInt with h47 | h47
                    · skip
                      replace hb : zHd _ := hb.1 h47
                      refine w_cge_f dX9_ends_69 (t := 78) rfl (by omega) ?_
                      refine w_lo dX9_ends_72 rfl rfl rfl rfl ?_
                      refine w_ic dX9_ends_73 zi_5 ?_
                      refine w_lo dX9_ends_74 rfl rfl rfl rfl ?_
                      refine w_iv dX9_ends_75 rfl rfl (As := [.int 5, .int v13_2]) rfl rfl hJ.1.1 zs_386 (Nat.le_of_ble_eq_true rfl) ?_
                      refine ZV.of (ini := false) rfl (Nat.le_of_ble_eq_true rfl) (by decide +kernel) ?_
                      show ZW _ _ _ _ _ _ _ (0, [some (.ref 386), some (.int 5), some (.int v13_2)], [], M)
                      refine w_lo dX9_blame_0 rfl rfl rfl rfl ?_
                      refine w_gfi dX9_blame_1 rfl hJ.1 zs_386 (Nat.le_of_ble_eq_true rfl) zo_386_8 ?_
                      intro x48 f49 h50 h51
                      replace hb : zHd _ := hb x48.toInt (ziE f49) h50 h51
                      rcases zcut (0 : Int) x48.toInt with h52 | h52
                      · skip
                        replace hb : zHd _ := hb.1 h52
                        refine w_ile_f dX9_blame_4 (t := 8) rfl (by omega) ?_
                        refine w_en dX9_blame_7 rfl ?_
                        show ZW _ _ _ _ _ _ _ (78, [some (.ref 386), some (.int v13_1), some (.int v13_2)], [], M)
                        refine w_lo dX9_ends_78 rfl rfl rfl rfl ?_
                        refine w_bi dX9_ends_79 (c := 59) (by decide) ?_
                        refine w_iv dX9_ends_81 rfl rfl (As := [.int 59]) rfl rfl hJ.1.1 zs_386 (Nat.le_of_ble_eq_true rfl) ?_
                        obtain ⟨P55, hp56, hb⟩ := hb
                        replace hb : zHd _ := hb
                        have hp56c : b_2340 (zi M) (59 : Int32).toInt P55 := by rw [zt_59]; exact hp56
                        refine ZV.imp (u_2340 59 hN hJ.1 hp56c) ?_
                        rintro _ ⟨M53, rfl, hJ54, hq57⟩
                        replace hb : zHd _ := hb  (zi M53) (zi_fr hJ54.2) hq57
                        have hJ59 := zJ_trans hJ hJ54 (zSub_cons (fun _ _ h h' hk => zIR_e (by omega) (by omega) hk) (zSub_cons (fun _ _ h h' hk => zIR_s (zIR_e (by omega) (by omega) hk)) (zSub_cons (fun _ _ h h' hk => zIR_s (zIR_s (zIR_e (by omega) (by omega) hk))) (zSub_cons (fun _ _ h h' hk => zIR_s (zIR_s (zIR_s (zIR_e (by omega) (by omega) hk)))) (zSub_cons (fun _ _ h h' hk => zIR_s (zIR_s (zIR_s (zIR_s (zIR_e (by omega) (by omega) hk))))) (zSub_cons (fun _ _ h h' hk => zIR_s (zIR_s (zIR_s (zIR_s (zIR_s (zIR_e (by omega) (by omega) hk)))))) (zSub_cons (fun _ _ h h' hk => zIR_s (zIR_s (zIR_s (zIR_s (zIR_s (zIR_s (zIR_e (by omega) (by omega) hk))))))) zSub_nil)))))))
                        show ZW _ _ _ _ _ _ _ (84, [some (.ref 386), some (.int v13_1), some (.int v13_2)], [], M53)
                        refine w_en dX9_ends_84 rfl ?_
                        exact ⟨_, rfl, hJ59, hb⟩
                      · skip
                        replace hb : zHd _ := hb.2 h52
                        refine w_ile_t dX9_blame_4 (t := 8) rfl (by omega) ?_
                        refine w_lo dX9_blame_8 rfl rfl rfl rfl ?_
                        refine w_lo dX9_blame_9 rfl rfl rfl rfl ?_
                        refine w_pfi dX9_blame_10 rfl hJ zs_386 (Nat.le_of_ble_eq_true rfl) zo_386_8 (by have := zt_5; omega) (by have := zt_5; omega) (zIR_s (zIR_s (zIR_s (zIR_s (zIR_s (zIR_k (by omega) (by omega))))))) rfl rfl rfl ?_
                        intro M60 hJ61 f62 hn63
                        replace hb : zHd _ := hb (zi M60) (zi_zup hn63 f62 rfl zt_5)
                        refine w_lo dX9_blame_13 rfl rfl rfl rfl ?_
                        refine w_lo dX9_blame_14 rfl rfl rfl rfl ?_
                        refine w_pfi dX9_blame_15 rfl hJ61 zs_386 (Nat.le_of_ble_eq_true rfl) zo_386_9 (by omega) (by omega) (zIR_s (zIR_s (zIR_s (zIR_s (zIR_s (zIR_s (zIR_k (by omega) (by omega)))))))) rfl rfl rfl ?_
                        intro M65 hJ66 f67 hn68
                        replace hb : zHd _ := hb (zi M65) (zi_zup hn68 f67 rfl rfl)
                        refine w_en dX9_blame_18 rfl ?_
                        show ZW _ _ _ _ _ _ _ (78, [some (.ref 386), some (.int v13_1), some (.int v13_2)], [], M65)
                        refine w_lo dX9_ends_78 rfl rfl rfl rfl ?_
                        refine w_bi dX9_ends_79 (c := 59) (by decide) ?_
                        refine w_iv dX9_ends_81 rfl rfl (As := [.int 59]) rfl rfl hJ66.1.1 zs_386 (Nat.le_of_ble_eq_true rfl) ?_
                        obtain ⟨P72, hp73, hb⟩ := hb
                        replace hb : zHd _ := hb
                        have hp73c : b_2340 (zi M65) (59 : Int32).toInt P72 := by rw [zt_59]; exact hp73
                        refine ZV.imp (u_2340 59 hN hJ66.1 hp73c) ?_
                        rintro _ ⟨M70, rfl, hJ71, hq74⟩
                        replace hb : zHd _ := hb  (zi M70) (zi_fr hJ71.2) hq74
                        have hJ76 := zJ_trans hJ66 hJ71 (zSub_cons (fun _ _ h h' hk => zIR_e (by omega) (by omega) hk) (zSub_cons (fun _ _ h h' hk => zIR_s (zIR_e (by omega) (by omega) hk)) (zSub_cons (fun _ _ h h' hk => zIR_s (zIR_s (zIR_e (by omega) (by omega) hk))) (zSub_cons (fun _ _ h h' hk => zIR_s (zIR_s (zIR_s (zIR_e (by omega) (by omega) hk)))) (zSub_cons (fun _ _ h h' hk => zIR_s (zIR_s (zIR_s (zIR_s (zIR_e (by omega) (by omega) hk))))) (zSub_cons (fun _ _ h h' hk => zIR_s (zIR_s (zIR_s (zIR_s (zIR_s (zIR_e (by omega) (by omega) hk)))))) (zSub_cons (fun _ _ h h' hk => zIR_s (zIR_s (zIR_s (zIR_s (zIR_s (zIR_s (zIR_e (by omega) (by omega) hk))))))) zSub_nil)))))))
                        show ZW _ _ _ _ _ _ _ (84, [some (.ref 386), some (.int v13_1), some (.int v13_2)], [], M70)
                        refine w_en dX9_ends_84 rfl ?_
                        exact ⟨_, rfl, hJ76, hb⟩
                    · skip
                      replace hb : zHd _ := hb.2 h47
                      refine w_cge_t dX9_ends_69 (t := 78) rfl (by omega) ?_
                      refine w_lo dX9_ends_78 rfl rfl rfl rfl ?_
                      refine w_bi dX9_ends_79 (c := 59) (by decide) ?_
                      refine w_iv dX9_ends_81 rfl rfl (As := [.int 59]) rfl rfl hJ.1.1 zs_386 (Nat.le_of_ble_eq_true rfl) ?_
                      obtain ⟨P79, hp80, hb⟩ := hb
                      replace hb : zHd _ := hb
                      have hp80c : b_2340 (zi M) (59 : Int32).toInt P79 := by rw [zt_59]; exact hp80
                      refine ZV.imp (u_2340 59 hN hJ.1 hp80c) ?_
                      rintro _ ⟨M77, rfl, hJ78, hq81⟩
                      replace hb : zHd _ := hb  (zi M77) (zi_fr hJ78.2) hq81
                      have hJ83 := zJ_trans hJ hJ78 (zSub_cons (fun _ _ h h' hk => zIR_e (by omega) (by omega) hk) (zSub_cons (fun _ _ h h' hk => zIR_s (zIR_e (by omega) (by omega) hk)) (zSub_cons (fun _ _ h h' hk => zIR_s (zIR_s (zIR_e (by omega) (by omega) hk))) (zSub_cons (fun _ _ h h' hk => zIR_s (zIR_s (zIR_s (zIR_e (by omega) (by omega) hk)))) (zSub_cons (fun _ _ h h' hk => zIR_s (zIR_s (zIR_s (zIR_s (zIR_e (by omega) (by omega) hk))))) (zSub_cons (fun _ _ h h' hk => zIR_s (zIR_s (zIR_s (zIR_s (zIR_s (zIR_e (by omega) (by omega) hk)))))) (zSub_cons (fun _ _ h h' hk => zIR_s (zIR_s (zIR_s (zIR_s (zIR_s (zIR_s (zIR_e (by omega) (by omega) hk))))))) zSub_nil)))))))
                      show ZW _ _ _ _ _ _ _ (84, [some (.ref 386), some (.int v13_1), some (.int v13_2)], [], M77)
                      refine w_en dX9_ends_84 rfl ?_
                      exact ⟨_, rfl, hJ83, hb⟩
            · skip
              replace hb : zHd _ := hb.2 h14
              refine w_cne_f dX9_ends_40 (t := 49) rfl (by have := zt_10; omega) ?_
              refine w_inc (kk := 2) dX9_ends_43 rfl (m := 1) (by decide) (by omega) ?_
              intro x84 h85
              refine ⟨_, rfl, ?_⟩
              replace hb : zHd _ := hb x84.toInt h85
              show ZW _ _ _ _ _ _ _ (46, [some (.ref 386), some (.int v13_1), some (.int x84)], [], M)
              refine w_gt dX9_ends_46 (t := 13) rfl ?_
              obtain ⟨m, hm, hI⟩ := hb
              exact (ih m hm) M v13_1 x84 hJ (zbot _) (ztop _) (by omega) (by omega) hI
          · skip
            replace hb : zHd _ := hb.2 h10
            refine w_ceq_t dX9_ends_29 (t := 43) rfl (by have := zt_32; omega) ?_
            refine w_inc (kk := 2) dX9_ends_43 rfl (m := 1) (by decide) (by omega) ?_
            intro x86 h87
            refine ⟨_, rfl, ?_⟩
            replace hb : zHd _ := hb x86.toInt h87
            show ZW _ _ _ _ _ _ _ (46, [some (.ref 386), some (.int v13_1), some (.int x86)], [], M)
            refine w_gt dX9_ends_46 (t := 13) rfl ?_
            obtain ⟨m, hm, hI⟩ := hb
            exact (ih m hm) M v13_1 x86 hJ (zbot _) (ztop _) (by omega) (by omega) hI
        · skip
          replace hb : zHd _ := hb.2 h5
          refine w_cge_t dX9_ends_18 (t := 49) rfl (by omega) ?_
          refine w_lo dX9_ends_49 rfl rfl rfl rfl ?_
          refine w_bi dX9_ends_50 (c := 59) (by decide) ?_
          refine w_iv dX9_ends_52 rfl rfl (As := [.int 59]) rfl rfl hJ.1.1 zs_386 (Nat.le_of_ble_eq_true rfl) ?_
          refine ZV.of (ini := false) rfl (Nat.le_of_ble_eq_true rfl) (by decide +kernel) ?_
          show ZW _ _ _ _ _ _ _ (0, [some (.ref 386), some (.int 59)], [], M)
          refine w_lo dX9_isSign_0 rfl rfl rfl rfl ?_
          refine w_gfi dX9_isSign_1 rfl hJ.1 zs_386 (Nat.le_of_ble_eq_true rfl) zo_386_3 ?_
          intro x88 f89 h90 h91
          replace hb : zHd _ := hb x88.toInt (ziE f89) h90 h91
          refine w_ic dX9_isSign_4 zi_3 ?_
          rcases Int.decEq x88.toInt (3 : Int) with h92 | h92
          · skip
            replace hb : zHd _ := hb.1 h92
            refine w_cne_t dX9_isSign_5 (t := 20) rfl (by have := zt_3; omega) ?_
            refine w_ic dX9_isSign_20 zi_0 ?_
            refine w_en dX9_isSign_21 rfl ?_
            show ZW _ _ _ _ _ _ _ (55, [some (.ref 386), some (.int v13_1), some (.int v13_2)], [.int 0], M)
            refine w_ieq_t dX9_ends_55 (t := 78) rfl (by have := zt_0; omega) ?_
            refine w_lo dX9_ends_78 rfl rfl rfl rfl ?_
            refine w_bi dX9_ends_79 (c := 59) (by decide) ?_
            refine w_iv dX9_ends_81 rfl rfl (As := [.int 59]) rfl rfl hJ.1.1 zs_386 (Nat.le_of_ble_eq_true rfl) ?_
            obtain ⟨P95, hp96, hb⟩ := hb
            replace hb : zHd _ := hb
            have hp96c : b_2340 (zi M) (59 : Int32).toInt P95 := by rw [zt_59]; exact hp96
            refine ZV.imp (u_2340 59 hN hJ.1 hp96c) ?_
            rintro _ ⟨M93, rfl, hJ94, hq97⟩
            replace hb : zHd _ := hb  (zi M93) (zi_fr hJ94.2) hq97
            have hJ99 := zJ_trans hJ hJ94 (zSub_cons (fun _ _ h h' hk => zIR_e (by omega) (by omega) hk) (zSub_cons (fun _ _ h h' hk => zIR_s (zIR_e (by omega) (by omega) hk)) (zSub_cons (fun _ _ h h' hk => zIR_s (zIR_s (zIR_e (by omega) (by omega) hk))) (zSub_cons (fun _ _ h h' hk => zIR_s (zIR_s (zIR_s (zIR_e (by omega) (by omega) hk)))) (zSub_cons (fun _ _ h h' hk => zIR_s (zIR_s (zIR_s (zIR_s (zIR_e (by omega) (by omega) hk))))) (zSub_cons (fun _ _ h h' hk => zIR_s (zIR_s (zIR_s (zIR_s (zIR_s (zIR_e (by omega) (by omega) hk)))))) (zSub_cons (fun _ _ h h' hk => zIR_s (zIR_s (zIR_s (zIR_s (zIR_s (zIR_s (zIR_e (by omega) (by omega) hk))))))) zSub_nil)))))))
            show ZW _ _ _ _ _ _ _ (84, [some (.ref 386), some (.int v13_1), some (.int v13_2)], [], M93)
            refine w_en dX9_ends_84 rfl ?_
            exact ⟨_, rfl, hJ99, hb⟩
          · skip
            replace hb : zHd _ := hb.2 h92
            refine w_cne_f dX9_isSign_5 (t := 20) rfl (by have := zt_3; omega) ?_
            refine w_lo dX9_isSign_8 rfl rfl rfl rfl ?_
            refine w_gfi dX9_isSign_9 rfl hJ.1 zs_386 (Nat.le_of_ble_eq_true rfl) zo_386_6 ?_
            intro x100 f101 h102 h103
            replace hb : zHd _ := hb x100.toInt (ziE f101)
            refine w_lo dX9_isSign_12 rfl rfl rfl rfl ?_
            rcases Int.decEq x100.toInt (59 : Int) with h104 | h104
            · skip
              replace hb : zHd _ := hb.1 h104
              refine w_cne_t dX9_isSign_13 (t := 20) rfl (by have := zt_59; omega) ?_
              refine w_ic dX9_isSign_20 zi_0 ?_
              refine w_en dX9_isSign_21 rfl ?_
              show ZW _ _ _ _ _ _ _ (55, [some (.ref 386), some (.int v13_1), some (.int v13_2)], [.int 0], M)
              refine w_ieq_t dX9_ends_55 (t := 78) rfl (by have := zt_0; omega) ?_
              refine w_lo dX9_ends_78 rfl rfl rfl rfl ?_
              refine w_bi dX9_ends_79 (c := 59) (by decide) ?_
              refine w_iv dX9_ends_81 rfl rfl (As := [.int 59]) rfl rfl hJ.1.1 zs_386 (Nat.le_of_ble_eq_true rfl) ?_
              obtain ⟨P107, hp108, hb⟩ := hb
              replace hb : zHd _ := hb
              have hp108c : b_2340 (zi M) (59 : Int32).toInt P107 := by rw [zt_59]; exact hp108
              refine ZV.imp (u_2340 59 hN hJ.1 hp108c) ?_
              rintro _ ⟨M105, rfl, hJ106, hq109⟩
              replace hb : zHd _ := hb  (zi M105) (zi_fr hJ106.2) hq109
              have hJ111 := zJ_trans hJ hJ106 (zSub_cons (fun _ _ h h' hk => zIR_e (by omega) (by omega) hk) (zSub_cons (fun _ _ h h' hk => zIR_s (zIR_e (by omega) (by omega) hk)) (zSub_cons (fun _ _ h h' hk => zIR_s (zIR_s (zIR_e (by omega) (by omega) hk))) (zSub_cons (fun _ _ h h' hk => zIR_s (zIR_s (zIR_s (zIR_e (by omega) (by omega) hk)))) (zSub_cons (fun _ _ h h' hk => zIR_s (zIR_s (zIR_s (zIR_s (zIR_e (by omega) (by omega) hk))))) (zSub_cons (fun _ _ h h' hk => zIR_s (zIR_s (zIR_s (zIR_s (zIR_s (zIR_e (by omega) (by omega) hk)))))) (zSub_cons (fun _ _ h h' hk => zIR_s (zIR_s (zIR_s (zIR_s (zIR_s (zIR_s (zIR_e (by omega) (by omega) hk))))))) zSub_nil)))))))
              show ZW _ _ _ _ _ _ _ (84, [some (.ref 386), some (.int v13_1), some (.int v13_2)], [], M105)
              refine w_en dX9_ends_84 rfl ?_
              exact ⟨_, rfl, hJ111, hb⟩
            · skip
              replace hb : zHd _ := hb.2 h104
              refine w_cne_f dX9_isSign_13 (t := 20) rfl (by have := zt_59; omega) ?_
              refine w_ic dX9_isSign_16 zi_1 ?_
              refine w_gt dX9_isSign_17 (t := 21) rfl ?_
              refine w_en dX9_isSign_21 rfl ?_
              show ZW _ _ _ _ _ _ _ (55, [some (.ref 386), some (.int v13_1), some (.int v13_2)], [.int 1], M)
              refine w_ieq_f dX9_ends_55 (t := 78) rfl (by have := zt_1; omega) ?_
              refine w_lo dX9_ends_58 rfl rfl rfl rfl ?_
              refine w_bi dX9_ends_59 (c := 90) (by decide) ?_
              rcases Int.decEq v13_1.toInt (90 : Int) with h112 | h112
              · skip
                replace hb : zHd _ := hb.1 h112
                refine w_cne_t dX9_ends_61 (t := 78) rfl (by have := zt_90; omega) ?_
                refine w_lo dX9_ends_78 rfl rfl rfl rfl ?_
                refine w_bi dX9_ends_79 (c := 59) (by decide) ?_
                refine w_iv dX9_ends_81 rfl rfl (As := [.int 59]) rfl rfl hJ.1.1 zs_386 (Nat.le_of_ble_eq_true rfl) ?_
                obtain ⟨P115, hp116, hb⟩ := hb
                replace hb : zHd _ := hb
                have hp116c : b_2340 (zi M) (59 : Int32).toInt P115 := by rw [zt_59]; exact hp116
                refine ZV.imp (u_2340 59 hN hJ.1 hp116c) ?_
                rintro _ ⟨M113, rfl, hJ114, hq117⟩
                replace hb : zHd _ := hb  (zi M113) (zi_fr hJ114.2) hq117
                have hJ119 := zJ_trans hJ hJ114 (zSub_cons (fun _ _ h h' hk => zIR_e (by omega) (by omega) hk) (zSub_cons (fun _ _ h h' hk => zIR_s (zIR_e (by omega) (by omega) hk)) (zSub_cons (fun _ _ h h' hk => zIR_s (zIR_s (zIR_e (by omega) (by omega) hk))) (zSub_cons (fun _ _ h h' hk => zIR_s (zIR_s (zIR_s (zIR_e (by omega) (by omega) hk)))) (zSub_cons (fun _ _ h h' hk => zIR_s (zIR_s (zIR_s (zIR_s (zIR_e (by omega) (by omega) hk))))) (zSub_cons (fun _ _ h h' hk => zIR_s (zIR_s (zIR_s (zIR_s (zIR_s (zIR_e (by omega) (by omega) hk)))))) (zSub_cons (fun _ _ h h' hk => zIR_s (zIR_s (zIR_s (zIR_s (zIR_s (zIR_s (zIR_e (by omega) (by omega) hk))))))) zSub_nil)))))))
                show ZW _ _ _ _ _ _ _ (84, [some (.ref 386), some (.int v13_1), some (.int v13_2)], [], M113)
                refine w_en dX9_ends_84 rfl ?_
                exact ⟨_, rfl, hJ119, hb⟩
              · skip
                replace hb : zHd _ := hb.2 h112
                refine w_cne_f dX9_ends_61 (t := 78) rfl (by have := zt_90; omega) ?_
                refine w_lo dX9_ends_64 rfl rfl rfl rfl ?_
                refine w_lo dX9_ends_65 rfl rfl rfl rfl ?_
                refine w_gf dX9_ends_66 rfl hJ.1.1 zs_386 f2 ?_
                rcases zcut v13_2.toInt x1.toInt with h120 | h120
                · skip
                  replace hb : zHd _ := hb.1 h120
                  refine w_cge_f dX9_ends_69 (t := 78) rfl (by omega) ?_
                  refine w_lo dX9_ends_72 rfl rfl rfl rfl ?_
                  refine w_ic dX9_ends_73 zi_5 ?_
                  refine w_lo dX9_ends_74 rfl rfl rfl rfl ?_
                  refine w_iv dX9_ends_75 rfl rfl (As := [.int 5, .int v13_2]) rfl rfl hJ.1.1 zs_386 (Nat.le_of_ble_eq_true rfl) ?_
                  refine ZV.of (ini := false) rfl (Nat.le_of_ble_eq_true rfl) (by decide +kernel) ?_
                  show ZW _ _ _ _ _ _ _ (0, [some (.ref 386), some (.int 5), some (.int v13_2)], [], M)
                  refine w_lo dX9_blame_0 rfl rfl rfl rfl ?_
                  refine w_gfi dX9_blame_1 rfl hJ.1 zs_386 (Nat.le_of_ble_eq_true rfl) zo_386_8 ?_
                  intro x121 f122 h123 h124
                  replace hb : zHd _ := hb x121.toInt (ziE f122) h123 h124
                  rcases zcut (0 : Int) x121.toInt with h125 | h125
                  · skip
                    replace hb : zHd _ := hb.1 h125
                    refine w_ile_f dX9_blame_4 (t := 8) rfl (by omega) ?_
                    refine w_en dX9_blame_7 rfl ?_
                    show ZW _ _ _ _ _ _ _ (78, [some (.ref 386), some (.int v13_1), some (.int v13_2)], [], M)
                    refine w_lo dX9_ends_78 rfl rfl rfl rfl ?_
                    refine w_bi dX9_ends_79 (c := 59) (by decide) ?_
                    refine w_iv dX9_ends_81 rfl rfl (As := [.int 59]) rfl rfl hJ.1.1 zs_386 (Nat.le_of_ble_eq_true rfl) ?_
                    obtain ⟨P128, hp129, hb⟩ := hb
                    replace hb : zHd _ := hb
                    have hp129c : b_2340 (zi M) (59 : Int32).toInt P128 := by rw [zt_59]; exact hp129
                    refine ZV.imp (u_2340 59 hN hJ.1 hp129c) ?_
                    rintro _ ⟨M126, rfl, hJ127, hq130⟩
                    replace hb : zHd _ := hb  (zi M126) (zi_fr hJ127.2) hq130
                    have hJ132 := zJ_trans hJ hJ127 (zSub_cons (fun _ _ h h' hk => zIR_e (by omega) (by omega) hk) (zSub_cons (fun _ _ h h' hk => zIR_s (zIR_e (by omega) (by omega) hk)) (zSub_cons (fun _ _ h h' hk => zIR_s (zIR_s (zIR_e (by omega) (by omega) hk))) (zSub_cons (fun _ _ h h' hk => zIR_s (zIR_s (zIR_s (zIR_e (by omega) (by omega) hk)))) (zSub_cons (fun _ _ h h' hk => zIR_s (zIR_s (zIR_s (zIR_s (zIR_e (by omega) (by omega) hk))))) (zSub_cons (fun _ _ h h' hk => zIR_s (zIR_s (zIR_s (zIR_s (zIR_s (zIR_e (by omega) (by omega) hk)))))) (zSub_cons (fun _ _ h h' hk => zIR_s (zIR_s (zIR_s (zIR_s (zIR_s (zIR_s (zIR_e (by omega) (by omega) hk))))))) zSub_nil)))))))
                    show ZW _ _ _ _ _ _ _ (84, [some (.ref 386), some (.int v13_1), some (.int v13_2)], [], M126)
                    refine w_en dX9_ends_84 rfl ?_
                    exact ⟨_, rfl, hJ132, hb⟩
                  · skip
                    replace hb : zHd _ := hb.2 h125
                    refine w_ile_t dX9_blame_4 (t := 8) rfl (by omega) ?_
                    refine w_lo dX9_blame_8 rfl rfl rfl rfl ?_
                    refine w_lo dX9_blame_9 rfl rfl rfl rfl ?_
                    refine w_pfi dX9_blame_10 rfl hJ zs_386 (Nat.le_of_ble_eq_true rfl) zo_386_8 (by have := zt_5; omega) (by have := zt_5; omega) (zIR_s (zIR_s (zIR_s (zIR_s (zIR_s (zIR_k (by omega) (by omega))))))) rfl rfl rfl ?_
                    intro M133 hJ134 f135 hn136
                    replace hb : zHd _ := hb (zi M133) (zi_zup hn136 f135 rfl zt_5)
                    refine w_lo dX9_blame_13 rfl rfl rfl rfl ?_
                    refine w_lo dX9_blame_14 rfl rfl rfl rfl ?_
                    refine w_pfi dX9_blame_15 rfl hJ134 zs_386 (Nat.le_of_ble_eq_true rfl) zo_386_9 (by omega) (by omega) (zIR_s (zIR_s (zIR_s (zIR_s (zIR_s (zIR_s (zIR_k (by omega) (by omega)))))))) rfl rfl rfl ?_
                    intro M138 hJ139 f140 hn141
                    replace hb : zHd _ := hb (zi M138) (zi_zup hn141 f140 rfl rfl)
                    refine w_en dX9_blame_18 rfl ?_
                    show ZW _ _ _ _ _ _ _ (78, [some (.ref 386), some (.int v13_1), some (.int v13_2)], [], M138)
                    refine w_lo dX9_ends_78 rfl rfl rfl rfl ?_
                    refine w_bi dX9_ends_79 (c := 59) (by decide) ?_
                    refine w_iv dX9_ends_81 rfl rfl (As := [.int 59]) rfl rfl hJ139.1.1 zs_386 (Nat.le_of_ble_eq_true rfl) ?_
                    obtain ⟨P145, hp146, hb⟩ := hb
                    replace hb : zHd _ := hb
                    have hp146c : b_2340 (zi M138) (59 : Int32).toInt P145 := by rw [zt_59]; exact hp146
                    refine ZV.imp (u_2340 59 hN hJ139.1 hp146c) ?_
                    rintro _ ⟨M143, rfl, hJ144, hq147⟩
                    replace hb : zHd _ := hb  (zi M143) (zi_fr hJ144.2) hq147
                    have hJ149 := zJ_trans hJ139 hJ144 (zSub_cons (fun _ _ h h' hk => zIR_e (by omega) (by omega) hk) (zSub_cons (fun _ _ h h' hk => zIR_s (zIR_e (by omega) (by omega) hk)) (zSub_cons (fun _ _ h h' hk => zIR_s (zIR_s (zIR_e (by omega) (by omega) hk))) (zSub_cons (fun _ _ h h' hk => zIR_s (zIR_s (zIR_s (zIR_e (by omega) (by omega) hk)))) (zSub_cons (fun _ _ h h' hk => zIR_s (zIR_s (zIR_s (zIR_s (zIR_e (by omega) (by omega) hk))))) (zSub_cons (fun _ _ h h' hk => zIR_s (zIR_s (zIR_s (zIR_s (zIR_s (zIR_e (by omega) (by omega) hk)))))) (zSub_cons (fun _ _ h h' hk => zIR_s (zIR_s (zIR_s (zIR_s (zIR_s (zIR_s (zIR_e (by omega) (by omega) hk))))))) zSub_nil)))))))
                    show ZW _ _ _ _ _ _ _ (84, [some (.ref 386), some (.int v13_1), some (.int v13_2)], [], M143)
                    refine w_en dX9_ends_84 rfl ?_
                    exact ⟨_, rfl, hJ149, hb⟩
                · skip
                  replace hb : zHd _ := hb.2 h120
                  refine w_cge_t dX9_ends_69 (t := 78) rfl (by omega) ?_
                  refine w_lo dX9_ends_78 rfl rfl rfl rfl ?_
                  refine w_bi dX9_ends_79 (c := 59) (by decide) ?_
                  refine w_iv dX9_ends_81 rfl rfl (As := [.int 59]) rfl rfl hJ.1.1 zs_386 (Nat.le_of_ble_eq_true rfl) ?_
                  obtain ⟨P152, hp153, hb⟩ := hb
                  replace hb : zHd _ := hb
                  have hp153c : b_2340 (zi M) (59 : Int32).toInt P152 := by rw [zt_59]; exact hp153
                  refine ZV.imp (u_2340 59 hN hJ.1 hp153c) ?_
                  rintro _ ⟨M150, rfl, hJ151, hq154⟩
                  replace hb : zHd _ := hb  (zi M150) (zi_fr hJ151.2) hq154
                  have hJ156 := zJ_trans hJ hJ151 (zSub_cons (fun _ _ h h' hk => zIR_e (by omega) (by omega) hk) (zSub_cons (fun _ _ h h' hk => zIR_s (zIR_e (by omega) (by omega) hk)) (zSub_cons (fun _ _ h h' hk => zIR_s (zIR_s (zIR_e (by omega) (by omega) hk))) (zSub_cons (fun _ _ h h' hk => zIR_s (zIR_s (zIR_s (zIR_e (by omega) (by omega) hk)))) (zSub_cons (fun _ _ h h' hk => zIR_s (zIR_s (zIR_s (zIR_s (zIR_e (by omega) (by omega) hk))))) (zSub_cons (fun _ _ h h' hk => zIR_s (zIR_s (zIR_s (zIR_s (zIR_s (zIR_e (by omega) (by omega) hk)))))) (zSub_cons (fun _ _ h h' hk => zIR_s (zIR_s (zIR_s (zIR_s (zIR_s (zIR_s (zIR_e (by omega) (by omega) hk))))))) zSub_nil)))))))
                  show ZW _ _ _ _ _ _ _ (84, [some (.ref 386), some (.int v13_1), some (.int v13_2)], [], M150)
                  refine w_en dX9_ends_84 rfl ?_
                  exact ⟨_, rfl, hJ156, hb⟩
  have hb : zHd _ := hbE
  show ZW _ _ _ _ _ _ _ (0, [some (.ref 386), some (.int a0), none], [], M0)
  refine w_lo dX9_ends_0 rfl rfl rfl rfl ?_
  refine w_gfi dX9_ends_1 rfl hJ0.1 zs_386 (Nat.le_of_ble_eq_true rfl) zo_386_8 ?_
  intro x157 f158 h159 h160
  replace hb : zHd _ := hb x157.toInt (ziE f158) h159 h160
  rcases zcut (0 : Int) x157.toInt with h161 | h161
  · skip
    replace hb : zHd _ := hb.1 h161
    refine w_ile_f dX9_ends_4 (t := 8) rfl (by omega) ?_
    refine w_en dX9_ends_7 rfl ?_
    exact ⟨_, rfl, hJ0, hb⟩
  · skip
    replace hb : zHd _ := hb.2 h161
    refine w_ile_t dX9_ends_4 (t := 8) rfl (by omega) ?_
    refine w_lo dX9_ends_8 rfl rfl rfl rfl ?_
    refine w_gfi dX9_ends_9 rfl hJ0.1 zs_386 (Nat.le_of_ble_eq_true rfl) zo_386_5 ?_
    intro x162 f163 h164 h165
    replace hb : zHd _ := hb x162.toInt (ziE f163) h164 h165
    refine w_lo (ml' := [some (.ref 386), some (.int a0), some (.int x162)]) dX9_ends_12 rfl rfl rfl rfl ?_
    obtain ⟨m, hI⟩ := hb
    exact (main m) M0 a0 x162 hJ0 (zbot _) (ztop _) (by omega) (by omega) hI
set_option maxRecDepth 100000 in
theorem u_2341 {X : List Int32} {d N : Nat} {M0 : zM}  (hN : N ≤ 600) (hB0 : zB N M0) {Q : zF → Prop} (hb : b_2341 (zi M0) Q) : ZV X (d + 2) 2341 [.ref 386] M0 (zRV N [(418, 432, 1000), (386, 387, 65), (386, 387, 68)] M0 (fun M' => Q (zi M'))) := by
  have hJ0 : zJ N [(418, 432, 1000), (386, 387, 65), (386, 387, 68)] M0 M0 := zJ_refl hB0
  refine ZV.of (ini := false) rfl (Nat.le_of_ble_eq_true rfl) (by decide +kernel) ?_
  obtain ⟨I26, I66, hbE, hb26, hb66⟩ := hb
  replace hbE : zHd _ := hbE
  replace hb26 : zHd _ := hb26
  replace hb66 : zHd _ := hb66
  have main : ∀ n : Nat,
      (∀ (M : zM) (v26_1 : Int32), zJ N [(418, 432, 1000), (386, 387, 65), (386, 387, 68)] M0 M → ((0 : Int) ≤ v26_1.toInt) → (v26_1.toInt ≤ 12) → I26 n (zi M) v26_1.toInt → ZW X (d + 1) 9 false none cX9_begins (zRV N [(418, 432, 1000), (386, 387, 65), (386, 387, 68)] M0 (fun M' => Q (zi M'))) (26, [some (.ref 386), some (.int v26_1)], [], M)) ∧
      (∀ (M : zM) (v66_1 : Int32), zJ N [(418, 432, 1000), (386, 387, 65), (386, 387, 68)] M0 M → ((0 : Int) ≤ v66_1.toInt) → (v66_1.toInt ≤ 11) → I66 n (zi M) v66_1.toInt → ZW X (d + 1) 9 false none cX9_begins (zRV N [(418, 432, 1000), (386, 387, 65), (386, 387, 68)] M0 (fun M' => Q (zi M'))) (66, [some (.ref 386), some (.int v66_1)], [], M)) := by
    intro n
    induction n using Nat.strongRecOn with
    | _ n ih =>
      refine ⟨?_, ?_⟩
      · intro M v26_1 hJ v26_10 v26_11 hI
        have hb : zHd _ := hb26 n (zi M) v26_1.toInt (zi_fr hJ.2) v26_10 v26_11 hI
        refine w_lo dX9_begins_26 rfl rfl rfl rfl ?_
        refine w_bi dX9_begins_27 (c := 12) (by decide) ?_
        rcases zcut v26_1.toInt (12 : Int) with h1 | h1
        · skip
          replace hb : zHd _ := hb.1 h1
          refine w_cge_f dX9_begins_29 (t := 64) rfl (by have := zt_12; omega) ?_
          refine w_lo dX9_begins_32 rfl rfl rfl rfl ?_
          refine w_gf dX9_begins_33 rfl hJ.1.1 zs_386 (zr_386_50 hJ.1) ?_
          refine w_lo dX9_begins_36 rfl rfl rfl rfl ?_
          refine w_lo dX9_begins_37 rfl rfl rfl rfl ?_
          refine w_isi dX9_begins_38 hJ zs_419 (by omega) (by omega) zu_419 (by omega) (by omega) (zIR_a (by omega) (by omega)) ?_
          intro M2 hJ3 f4 hn5
          replace hb : zHd _ := hb (zi M2) (zi_zup hn5 f4 rfl rfl)
          refine w_lo dX9_begins_39 rfl rfl rfl rfl ?_
          refine w_gf dX9_begins_40 rfl hJ3.1.1 zs_386 (zr_386_51 hJ3.1) ?_
          refine w_lo dX9_begins_43 rfl rfl rfl rfl ?_
          refine w_ic dX9_begins_44 zi_1 ?_
          refine w_isi dX9_begins_45 hJ3 zs_420 (by omega) (by omega) zu_420 (by have := zt_1; omega) (by have := zt_1; omega) (zIR_a (by omega) (by omega)) ?_
          intro M7 hJ8 f9 hn10
          replace hb : zHd _ := hb (zi M7) (zi_zup hn10 f9 rfl zt_1)
          refine w_lo dX9_begins_46 rfl rfl rfl rfl ?_
          refine w_gf dX9_begins_47 rfl hJ8.1.1 zs_386 (zr_386_57 hJ8.1) ?_
          refine w_lo dX9_begins_50 rfl rfl rfl rfl ?_
          refine w_ic dX9_begins_51 zi_0 ?_
          refine w_isi dX9_begins_52 hJ8 zs_426 (by omega) (by omega) zu_426 (zbot _) (ztop _) (zIR_a (by omega) (by omega)) ?_
          intro M12 hJ13 f14 hn15
          replace hb : zHd _ := hb (zi M12) (zi_zup hn15 f14 rfl zt_0)
          refine w_lo dX9_begins_53 rfl rfl rfl rfl ?_
          refine w_lo dX9_begins_54 rfl rfl rfl rfl ?_
          refine w_iv dX9_begins_55 rfl rfl (As := [.int v26_1]) rfl rfl hJ13.1.1 zs_386 (Nat.le_of_ble_eq_true rfl) ?_
          refine ZV.imp (k_2342 v26_1 (by omega) (by omega) hN hJ13.1) ?_
          rintro _ ⟨M17, rfl, hJ18, hq19⟩
          replace hb : zHd _ := hb  (zi M17) (zi_fr hJ18.2)
          have hJ21 := zJ_trans hJ13 hJ18 (zSub_cons (fun _ _ h h' hk => zIR_a (by omega) (by omega)) (zSub_cons (fun _ _ h h' hk => zIR_a (by omega) (by omega)) zSub_nil))
          show ZW _ _ _ _ _ _ _ (58, [some (.ref 386), some (.int v26_1)], [], M17)
          refine w_inc (kk := 1) dX9_begins_58 rfl (m := 1) (by decide) (by omega) ?_
          intro x22 h23
          refine ⟨_, rfl, ?_⟩
          replace hb : zHd _ := hb x22.toInt h23
          show ZW _ _ _ _ _ _ _ (61, [some (.ref 386), some (.int x22)], [], M17)
          refine w_gt dX9_begins_61 (t := 26) rfl ?_
          obtain ⟨m, hm, hI⟩ := hb
          exact (ih m hm).1 M17 x22 hJ21 (by omega) (by omega) hI
        · skip
          replace hb : zHd _ := hb.2 h1
          refine w_cge_t dX9_begins_29 (t := 64) rfl (by have := zt_12; omega) ?_
          refine w_ic dX9_begins_64 zi_0 ?_
          refine w_lo (ml' := [some (.ref 386), some (.int 0)]) dX9_begins_65 rfl rfl rfl rfl ?_
          obtain ⟨m, hm, hI⟩ := hb
          exact (ih m hm).2 M 0 hJ (by have := zt_0; omega) (by have := zt_0; omega) hI
      · intro M v66_1 hJ v66_10 v66_11 hI
        have hb : zHd _ := hb66 n (zi M) v66_1.toInt (zi_fr hJ.2) v66_10 v66_11 hI
        refine w_lo dX9_begins_66 rfl rfl rfl rfl ?_
        refine w_bi dX9_begins_67 (c := 11) (by decide) ?_
        rcases zcut v66_1.toInt (11 : Int) with h24 | h24
        · skip
          replace hb : zHd _ := hb.1 h24
          refine w_cge_f dX9_begins_69 (t := 105) rfl (by have := zt_11; omega) ?_
          refine w_lo dX9_begins_72 rfl rfl rfl rfl ?_
          refine w_gf dX9_begins_73 rfl hJ.1.1 zs_386 (zr_386_60 hJ.1) ?_
          refine w_lo dX9_begins_76 rfl rfl rfl rfl ?_
          refine w_ic dX9_begins_77 zi_1 ?_
          refine w_isi dX9_begins_78 hJ zs_429 (by omega) (by omega) zu_429 (by have := zt_1; omega) (by have := zt_1; omega) (zIR_a (by omega) (by omega)) ?_
          intro M25 hJ26 f27 hn28
          replace hb : zHd _ := hb (zi M25) (zi_zup hn28 f27 rfl zt_1)
          refine w_lo dX9_begins_79 rfl rfl rfl rfl ?_
          refine w_gf dX9_begins_80 rfl hJ26.1.1 zs_386 (zr_386_61 hJ26.1) ?_
          refine w_lo dX9_begins_83 rfl rfl rfl rfl ?_
          refine w_lo dX9_begins_84 rfl rfl rfl rfl ?_
          refine w_gf dX9_begins_85 rfl hJ26.1.1 zs_386 (zr_386_20 hJ26.1) ?_
          refine w_bi dX9_begins_88 (c := 11) (by decide) ?_
          refine w_lo dX9_begins_90 rfl rfl rfl rfl ?_
          refine w_gfi dX9_begins_91 rfl hJ26.1 zs_386 (Nat.le_of_ble_eq_true rfl) zo_386_12 ?_
          intro x30 f31 h32 h33
          replace hb : zHd _ := hb x30.toInt (ziE f31) h32 h33
          refine w_mulc dX9_begins_94 zt_11 (by have := zt_11; omega) ?_
          intro x34 h35
          have := zt_11
          replace hb : zHd _ := hb x34.toInt (by have := zt_11; omega)
          refine w_lo dX9_begins_95 rfl rfl rfl rfl ?_
          refine w_add dX9_begins_96 (by omega) ?_
          intro x36 h37
          replace hb : zHd _ := hb x36.toInt (by omega)
          refine w_iai dX9_begins_97 hJ26.1 zs_395 (by omega) (by omega) zu_395 ?_
          intro x41 f38 h39 h40
          replace hb : zHd _ := hb x41.toInt (ziEk f38 rfl)
          refine w_isi dX9_begins_98 hJ26 zs_430 (by omega) (by omega) zu_430 (zbot _) (ztop _) (zIR_a (by omega) (by omega)) ?_
          intro M42 hJ43 f44 hn45
          replace hb : zHd _ := hb (zi M42) (zi_zup hn45 f44 rfl rfl)
          refine w_inc (kk := 1) dX9_begins_99 rfl (m := 1) (by decide) (by omega) ?_
          intro x47 h48
          refine ⟨_, rfl, ?_⟩
          replace hb : zHd _ := hb x47.toInt h48
          show ZW _ _ _ _ _ _ _ (102, [some (.ref 386), some (.int x47)], [], M42)
          refine w_gt dX9_begins_102 (t := 66) rfl ?_
          obtain ⟨m, hm, hI⟩ := hb
          exact (ih m hm).2 M42 x47 hJ43 (by omega) (by omega) hI
        · skip
          replace hb : zHd _ := hb.2 h24
          refine w_cge_t dX9_begins_69 (t := 105) rfl (by have := zt_11; omega) ?_
          refine w_en dX9_begins_105 rfl ?_
          exact ⟨_, rfl, hJ, hb⟩
  have hb : zHd _ := hbE
  show ZW _ _ _ _ _ _ _ (0, [some (.ref 386), none], [], M0)
  refine w_lo dX9_begins_0 rfl rfl rfl rfl ?_
  refine w_gf dX9_begins_1 rfl hJ0.1.1 zs_386 (zr_386_49 hJ0.1) ?_
  refine w_ic dX9_begins_4 zi_0 ?_
  refine w_ic dX9_begins_5 zi_0 ?_
  refine w_isi dX9_begins_6 hJ0 zs_418 (by have := zt_0; omega) (by have := zt_0; omega) zu_418 (zbot _) (ztop _) (zIR_a (by omega) (by omega)) ?_
  intro M49 hJ50 f51 hn52
  replace hb : zHd _ := hb (zi M49) (zi_zup hn52 f51 (by decide) zt_0)
  refine w_lo dX9_begins_7 rfl rfl rfl rfl ?_
  refine w_gf dX9_begins_8 rfl hJ50.1.1 zs_386 (zr_386_62 hJ50.1) ?_
  refine w_ic dX9_begins_11 zi_0 ?_
  refine w_ic dX9_begins_12 zi_0 ?_
  refine w_isi dX9_begins_13 hJ50 zs_431 (by have := zt_0; omega) (by have := zt_0; omega) zu_431 (by have := zt_0; omega) (by have := zt_0; omega) (zIR_a (by omega) (by omega)) ?_
  intro M54 hJ55 f56 hn57
  replace hb : zHd _ := hb (zi M54) (zi_zup hn57 f56 (by decide) zt_0)
  refine w_lo dX9_begins_14 rfl rfl rfl rfl ?_
  refine w_ic dX9_begins_15 zi_0 ?_
  refine w_pfi dX9_begins_16 rfl hJ55 zs_386 (Nat.le_of_ble_eq_true rfl) zo_386_65 (by have := zt_0; omega) (by have := zt_0; omega) (zIR_s (zIR_k (by omega) (by omega))) rfl rfl rfl ?_
  intro M59 hJ60 f61 hn62
  replace hb : zHd _ := hb (zi M59) (zi_zup hn62 f61 rfl zt_0)
  refine w_lo dX9_begins_19 rfl rfl rfl rfl ?_
  refine w_ic dX9_begins_20 zi_0 ?_
  refine w_pfi dX9_begins_21 rfl hJ60 zs_386 (Nat.le_of_ble_eq_true rfl) zo_386_68 (by have := zt_0; omega) (by have := zt_0; omega) (zIR_s (zIR_s (zIR_k (by omega) (by omega)))) rfl rfl rfl ?_
  intro M64 hJ65 f66 hn67
  replace hb : zHd _ := hb (zi M64) (zi_zup hn67 f66 rfl zt_0)
  refine w_ic dX9_begins_24 zi_0 ?_
  refine w_lo (ml' := [some (.ref 386), some (.int 0)]) dX9_begins_25 rfl rfl rfl rfl ?_
  obtain ⟨m, hI⟩ := hb
  exact (main m).1 M64 0 hJ65 (by have := zt_0; omega) (by have := zt_0; omega) hI
set_option maxHeartbeats 20000000 in
set_option maxRecDepth 100000 in
theorem u_2309 {X : List Int32} {d N : Nat} {M0 : zM}  (hN : N ≤ 600) (hB0 : zB N M0) {Q : Int → zF → Prop} (hb : b_2309 (zi M0) Q) : ZV X (d + 8) 2309 [.ref 386] M0 (zRI N [(386, 387, 1), (386, 387, 10), (388, 416, 1000), (418, 432, 1000), (386, 387, 11), (386, 387, 12), (386, 387, 2), (386, 387, 3), (386, 387, 34), (386, 387, 35), (386, 387, 4), (386, 387, 41), (386, 387, 42), (386, 387, 44), (386, 387, 45), (386, 387, 5), (386, 387, 6), (386, 387, 65), (386, 387, 68), (386, 387, 7), (386, 387, 8), (386, 387, 9)] M0 (-2147483648) (2147483647) (fun v M' => Q v.toInt (zi M'))) := by
  have hJ0 : zJ N [(386, 387, 1), (386, 387, 10), (388, 416, 1000), (418, 432, 1000), (386, 387, 11), (386, 387, 12), (386, 387, 2), (386, 387, 3), (386, 387, 34), (386, 387, 35), (386, 387, 4), (386, 387, 41), (386, 387, 42), (386, 387, 44), (386, 387, 45), (386, 387, 5), (386, 387, 6), (386, 387, 65), (386, 387, 68), (386, 387, 7), (386, 387, 8), (386, 387, 9)] M0 M0 := zJ_refl hB0
  refine ZV.of (ini := false) rfl (Nat.le_of_ble_eq_true rfl) (by decide +kernel) ?_
  obtain ⟨I76, I114, I143, hbE, hb76, hb114, hb143⟩ := hb
  replace hbE : zHd _ := hbE
  replace hb76 : zHd _ := hb76
  replace hb114 : zHd _ := hb114
  replace hb143 : zHd _ := hb143
  have main : ∀ n : Nat,
      (∀ (M : zM) (v76_1 : Int32), zJ N [(386, 387, 1), (386, 387, 10), (388, 416, 1000), (418, 432, 1000), (386, 387, 11), (386, 387, 12), (386, 387, 2), (386, 387, 3), (386, 387, 34), (386, 387, 35), (386, 387, 4), (386, 387, 41), (386, 387, 42), (386, 387, 44), (386, 387, 45), (386, 387, 5), (386, 387, 6), (386, 387, 65), (386, 387, 68), (386, 387, 7), (386, 387, 8), (386, 387, 9)] M0 M → ((0 : Int) ≤ v76_1.toInt) → (v76_1.toInt ≤ 22) → I76 n (zi M) v76_1.toInt → ZW X (d + 7) 9 false (some .int) cX9_dorm (zRI N [(386, 387, 1), (386, 387, 10), (388, 416, 1000), (418, 432, 1000), (386, 387, 11), (386, 387, 12), (386, 387, 2), (386, 387, 3), (386, 387, 34), (386, 387, 35), (386, 387, 4), (386, 387, 41), (386, 387, 42), (386, 387, 44), (386, 387, 45), (386, 387, 5), (386, 387, 6), (386, 387, 65), (386, 387, 68), (386, 387, 7), (386, 387, 8), (386, 387, 9)] M0 (-2147483648) (2147483647) (fun v M' => Q v.toInt (zi M'))) (76, [some (.ref 386), some (.int v76_1)], [], M)) ∧
      (∀ (M : zM) (v114_1 : Int32), zJ N [(386, 387, 1), (386, 387, 10), (388, 416, 1000), (418, 432, 1000), (386, 387, 11), (386, 387, 12), (386, 387, 2), (386, 387, 3), (386, 387, 34), (386, 387, 35), (386, 387, 4), (386, 387, 41), (386, 387, 42), (386, 387, 44), (386, 387, 45), (386, 387, 5), (386, 387, 6), (386, 387, 65), (386, 387, 68), (386, 387, 7), (386, 387, 8), (386, 387, 9)] M0 M → ((-2147483648 : Int) ≤ v114_1.toInt) → (v114_1.toInt ≤ 2147483647) → I114 n (zi M) v114_1.toInt → ZW X (d + 7) 9 false (some .int) cX9_dorm (zRI N [(386, 387, 1), (386, 387, 10), (388, 416, 1000), (418, 432, 1000), (386, 387, 11), (386, 387, 12), (386, 387, 2), (386, 387, 3), (386, 387, 34), (386, 387, 35), (386, 387, 4), (386, 387, 41), (386, 387, 42), (386, 387, 44), (386, 387, 45), (386, 387, 5), (386, 387, 6), (386, 387, 65), (386, 387, 68), (386, 387, 7), (386, 387, 8), (386, 387, 9)] M0 (-2147483648) (2147483647) (fun v M' => Q v.toInt (zi M'))) (114, [some (.ref 386), some (.int v114_1)], [], M)) ∧
      (∀ (M : zM) (v143_1 : Int32), zJ N [(386, 387, 1), (386, 387, 10), (388, 416, 1000), (418, 432, 1000), (386, 387, 11), (386, 387, 12), (386, 387, 2), (386, 387, 3), (386, 387, 34), (386, 387, 35), (386, 387, 4), (386, 387, 41), (386, 387, 42), (386, 387, 44), (386, 387, 45), (386, 387, 5), (386, 387, 6), (386, 387, 65), (386, 387, 68), (386, 387, 7), (386, 387, 8), (386, 387, 9)] M0 M → ((-2147483648 : Int) ≤ v143_1.toInt) → (v143_1.toInt ≤ 2147483647) → I143 n (zi M) v143_1.toInt → ZW X (d + 7) 9 false (some .int) cX9_dorm (zRI N [(386, 387, 1), (386, 387, 10), (388, 416, 1000), (418, 432, 1000), (386, 387, 11), (386, 387, 12), (386, 387, 2), (386, 387, 3), (386, 387, 34), (386, 387, 35), (386, 387, 4), (386, 387, 41), (386, 387, 42), (386, 387, 44), (386, 387, 45), (386, 387, 5), (386, 387, 6), (386, 387, 65), (386, 387, 68), (386, 387, 7), (386, 387, 8), (386, 387, 9)] M0 (-2147483648) (2147483647) (fun v M' => Q v.toInt (zi M'))) (143, [some (.ref 386), some (.int v143_1)], [], M)) := by
    intro n
    induction n using Nat.strongRecOn with
    | _ n ih =>
      refine ⟨?_, ?_, ?_⟩
      · intro M v76_1 hJ v76_10 v76_11 hI
        have hb : zHd _ := hb76 n (zi M) v76_1.toInt (zi_fr hJ.2) v76_10 v76_11 hI
        refine w_lo dX9_dorm_76 rfl rfl rfl rfl ?_
        refine w_bi dX9_dorm_77 (c := 11) (by decide) ?_
        refine w_lo dX9_dorm_79 rfl rfl rfl rfl ?_
        refine w_gfi dX9_dorm_80 rfl hJ.1 zs_386 (Nat.le_of_ble_eq_true rfl) zo_386_35 ?_
        intro x1 f2 h3 h4
        replace hb : zHd _ := hb x1.toInt (ziE f2) h3 h4
        refine w_mulc dX9_dorm_83 zt_11 (by have := zt_11; omega) ?_
        intro x5 h6
        have := zt_11
        replace hb : zHd _ := hb x5.toInt (by have := zt_11; omega)
        refine w_bi dX9_dorm_84 (c := 11) (by decide) ?_
        refine w_add dX9_dorm_86 (by have := zt_11; omega) ?_
        intro x7 h8
        have := zt_11
        replace hb : zHd _ := hb x7.toInt (by have := zt_11; omega)
        rcases zcut v76_1.toInt x7.toInt with h9 | h9
        · skip
          replace hb : zHd _ := hb.1 h9
          refine w_cge_f dX9_dorm_87 (t := 103) rfl (by omega) ?_
          refine w_lo dX9_dorm_90 rfl rfl rfl rfl ?_
          refine w_gf dX9_dorm_91 rfl hJ.1.1 zs_386 (zr_386_20 hJ.1) ?_
          refine w_lo dX9_dorm_94 rfl rfl rfl rfl ?_
          refine w_ic dX9_dorm_95 zi_0 ?_
          refine w_isi dX9_dorm_96 hJ zs_395 (by omega) (by omega) zu_395 (zbot _) (ztop _) (zIR_s (zIR_s (zIR_a (by omega) (by omega)))) ?_
          intro M10 hJ11 f12 hn13
          replace hb : zHd _ := hb (zi M10) (zi_zup hn13 f12 rfl zt_0)
          refine w_inc (kk := 1) dX9_dorm_97 rfl (m := 1) (by decide) (by omega) ?_
          intro x15 h16
          refine ⟨_, rfl, ?_⟩
          replace hb : zHd _ := hb x15.toInt h16
          show ZW _ _ _ _ _ _ _ (100, [some (.ref 386), some (.int x15)], [], M10)
          refine w_gt dX9_dorm_100 (t := 76) rfl ?_
          obtain ⟨m, hm, hI⟩ := hb
          exact (ih m hm).1 M10 x15 hJ11 (by omega) (by omega) hI
        · skip
          replace hb : zHd _ := hb.2 h9
          refine w_cge_t dX9_dorm_87 (t := 103) rfl (by omega) ?_
          refine w_lo dX9_dorm_103 rfl rfl rfl rfl ?_
          refine w_ic dX9_dorm_104 zi_0 ?_
          refine w_pfi dX9_dorm_105 rfl hJ zs_386 (Nat.le_of_ble_eq_true rfl) zo_386_34 (by have := zt_0; omega) (by have := zt_0; omega) (zIR_s (zIR_s (zIR_s (zIR_s (zIR_s (zIR_s (zIR_s (zIR_s (zIR_k (by omega) (by omega)))))))))) rfl rfl rfl ?_
          intro M17 hJ18 f19 hn20
          replace hb : zHd _ := hb (zi M17) (zi_zup hn20 f19 rfl zt_0)
          refine w_ic dX9_dorm_108 zi_0 ?_
          refine w_lo (ml' := [some (.ref 386), some (.int 0)]) dX9_dorm_109 rfl rfl rfl rfl ?_
          refine w_lo dX9_dorm_110 rfl rfl rfl rfl ?_
          refine w_iv dX9_dorm_111 rfl rfl (As := []) rfl rfl hJ18.1.1 zs_386 (Nat.le_of_ble_eq_true rfl) ?_
          obtain ⟨P24, hp25, hb⟩ := hb
          replace hb : zHd _ := hb
          refine ZV.imp (u_2310 hN hJ18.1 hp25) ?_
          rintro _ ⟨M22, rfl, hJ23, hq26⟩
          replace hb : zHd _ := hb  (zi M22) (zi_fr hJ23.2) hq26
          have hJ28 := zJ_trans hJ18 hJ23 (zSub_cons (fun _ _ h h' hk => zIR_s (zIR_s (zIR_s (zIR_s (zIR_s (zIR_s (zIR_s (zIR_e (by omega) (by omega) hk)))))))) (zSub_cons (fun _ _ h h' hk => zIR_s (zIR_s (zIR_s (zIR_s (zIR_s (zIR_s (zIR_s (zIR_s (zIR_s (zIR_s (zIR_e (by omega) (by omega) hk))))))))))) (zSub_cons (fun _ _ h h' hk => zIR_s (zIR_s (zIR_s (zIR_s (zIR_s (zIR_s (zIR_s (zIR_s (zIR_s (zIR_s (zIR_s (zIR_s (zIR_s (zIR_s (zIR_s (zIR_e (by omega) (by omega) hk)))))))))))))))) (zSub_cons (fun _ _ h h' hk => zIR_s (zIR_s (zIR_s (zIR_s (zIR_s (zIR_s (zIR_s (zIR_s (zIR_s (zIR_s (zIR_s (zIR_s (zIR_s (zIR_s (zIR_s (zIR_s (zIR_e (by omega) (by omega) hk))))))))))))))))) (zSub_cons (fun _ _ h h' hk => zIR_s (zIR_s (zIR_s (zIR_s (zIR_s (zIR_s (zIR_s (zIR_s (zIR_s (zIR_s (zIR_s (zIR_s (zIR_s (zIR_s (zIR_s (zIR_s (zIR_s (zIR_s (zIR_s (zIR_e (by omega) (by omega) hk)))))))))))))))))))) (zSub_cons (fun _ _ h h' hk => zIR_s (zIR_s (zIR_s (zIR_s (zIR_s (zIR_s (zIR_s (zIR_s (zIR_s (zIR_s (zIR_s (zIR_s (zIR_s (zIR_s (zIR_s (zIR_s (zIR_s (zIR_s (zIR_s (zIR_s (zIR_e (by omega) (by omega) hk))))))))))))))))))))) (zSub_cons (fun _ _ h h' hk => zIR_s (zIR_s (zIR_s (zIR_s (zIR_s (zIR_s (zIR_s (zIR_s (zIR_s (zIR_s (zIR_s (zIR_s (zIR_s (zIR_s (zIR_s (zIR_s (zIR_s (zIR_s (zIR_s (zIR_s (zIR_s (zIR_e (by omega) (by omega) hk)))))))))))))))))))))) zSub_nil)))))))
          show ZW _ _ _ _ _ _ _ (114, [some (.ref 386), some (.int 0)], [], M22)
          obtain ⟨m, hm, hI⟩ := hb
          exact (ih m hm).2.1 M22 0 hJ28 (zbot _) (ztop _) hI
      · intro M v114_1 hJ v114_10 v114_11 hI
        have hb : zHd _ := hb114 n (zi M) v114_1.toInt (zi_fr hJ.2)  hI
        refine w_lo dX9_dorm_114 rfl rfl rfl rfl ?_
        refine w_gfi dX9_dorm_115 rfl hJ.1 zs_386 (Nat.le_of_ble_eq_true rfl) zo_386_8 ?_
        intro x29 f30 h31 h32
        replace hb : zHd _ := hb x29.toInt (ziE f30) h31 h32
        rcases Int.decEq x29.toInt (0 : Int) with h33 | h33
        · skip
          replace hb : zHd _ := hb.1 h33
          refine w_ine_t dX9_dorm_118 (t := 143) rfl (by omega) ?_
          obtain ⟨m, hm, hI⟩ := hb
          exact (ih m hm).2.2 M v114_1 hJ (zbot _) (ztop _) hI
        · skip
          replace hb : zHd _ := hb.2 h33
          refine w_ine_f dX9_dorm_118 (t := 143) rfl (by omega) ?_
          refine w_lo dX9_dorm_121 rfl rfl rfl rfl ?_
          refine w_gfi dX9_dorm_122 rfl hJ.1 zs_386 (Nat.le_of_ble_eq_true rfl) zo_386_3 ?_
          intro x34 f35 h36 h37
          replace hb : zHd _ := hb x34.toInt (ziE f35) h36 h37
          rcases Int.decEq x34.toInt (0 : Int) with h38 | h38
          · skip
            replace hb : zHd _ := hb.1 h38
            refine w_ieq_f dX9_dorm_125 (t := 143) rfl (by omega) ?_
            refine w_lo dX9_dorm_128 rfl rfl rfl rfl ?_
            refine w_iv dX9_dorm_129 rfl rfl (As := []) rfl rfl hJ.1.1 zs_386 (Nat.le_of_ble_eq_true rfl) ?_
            obtain ⟨P41, hp42, hb⟩ := hb
            replace hb : zHd _ := hb
            refine ZV.imp (u_2314 hN hJ.1 hp42) ?_
            rintro _ ⟨M39, rfl, hJ40, hq43⟩
            replace hb : zHd _ := hb  (zi M39) (zi_fr hJ40.2) hq43
            have hJ45 := zJ_trans hJ hJ40 (zSub_cons (fun _ _ h h' hk => zIR_s (zIR_s (zIR_a (by omega) (by omega)))) (zSub_cons (fun _ _ h h' hk => zIR_s (zIR_s (zIR_s (zIR_s (zIR_s (zIR_s (zIR_s (zIR_e (by omega) (by omega) hk)))))))) (zSub_cons (fun _ _ h h' hk => zIR_s (zIR_s (zIR_s (zIR_s (zIR_s (zIR_s (zIR_s (zIR_s (zIR_e (by omega) (by omega) hk))))))))) (zSub_cons (fun _ _ h h' hk => zIR_s (zIR_s (zIR_s (zIR_s (zIR_s (zIR_s (zIR_s (zIR_s (zIR_s (zIR_s (zIR_e (by omega) (by omega) hk))))))))))) (zSub_cons (fun _ _ h h' hk => zIR_s (zIR_s (zIR_s (zIR_s (zIR_s (zIR_s (zIR_s (zIR_s (zIR_s (zIR_s (zIR_s (zIR_e (by omega) (by omega) hk)))))))))))) (zSub_cons (fun _ _ h h' hk => zIR_s (zIR_s (zIR_s (zIR_s (zIR_s (zIR_s (zIR_s (zIR_s (zIR_s (zIR_s (zIR_s (zIR_s (zIR_e (by omega) (by omega) hk))))))))))))) (zSub_cons (fun _ _ h h' hk => zIR_s (zIR_s (zIR_s (zIR_s (zIR_s (zIR_s (zIR_s (zIR_s (zIR_s (zIR_s (zIR_s (zIR_s (zIR_s (zIR_e (by omega) (by omega) hk)))))))))))))) (zSub_cons (fun _ _ h h' hk => zIR_s (zIR_s (zIR_s (zIR_s (zIR_s (zIR_s (zIR_s (zIR_s (zIR_s (zIR_s (zIR_s (zIR_s (zIR_s (zIR_s (zIR_e (by omega) (by omega) hk))))))))))))))) (zSub_cons (fun _ _ h h' hk => zIR_s (zIR_s (zIR_s (zIR_s (zIR_s (zIR_s (zIR_s (zIR_s (zIR_s (zIR_s (zIR_s (zIR_s (zIR_s (zIR_s (zIR_s (zIR_e (by omega) (by omega) hk)))))))))))))))) (zSub_cons (fun _ _ h h' hk => zIR_s (zIR_s (zIR_s (zIR_s (zIR_s (zIR_s (zIR_s (zIR_s (zIR_s (zIR_s (zIR_s (zIR_s (zIR_s (zIR_s (zIR_s (zIR_s (zIR_e (by omega) (by omega) hk))))))))))))))))) (zSub_cons (fun _ _ h h' hk => zIR_s (zIR_s (zIR_s (zIR_s (zIR_s (zIR_s (zIR_s (zIR_s (zIR_s (zIR_s (zIR_s (zIR_s (zIR_s (zIR_s (zIR_s (zIR_s (zIR_s (zIR_s (zIR_s (zIR_e (by omega) (by omega) hk)))))))))))))))))))) (zSub_cons (fun _ _ h h' hk => zIR_s (zIR_s (zIR_s (zIR_s (zIR_s (zIR_s (zIR_s (zIR_s (zIR_s (zIR_s (zIR_s (zIR_s (zIR_s (zIR_s (zIR_s (zIR_s (zIR_s (zIR_s (zIR_s (zIR_s (zIR_e (by omega) (by omega) hk))))))))))))))))))))) (zSub_cons (fun _ _ h h' hk => zIR_s (zIR_s (zIR_s (zIR_s (zIR_s (zIR_s (zIR_s (zIR_s (zIR_s (zIR_s (zIR_s (zIR_s (zIR_s (zIR_s (zIR_s (zIR_s (zIR_s (zIR_s (zIR_s (zIR_s (zIR_s (zIR_e (by omega) (by omega) hk)))))))))))))))))))))) zSub_nil)))))))))))))
            show ZW _ _ _ _ _ _ _ (132, [some (.ref 386), some (.int v114_1)], [], M39)
            refine w_incE (kk := 1) dX9_dorm_132 rfl (m := 1) (by decide) ?_
            intro x46 h47
            refine ⟨_, rfl, ?_⟩
            replace hb : zHd _ := hb x46.toInt h47
            show ZW _ _ _ _ _ _ _ (135, [some (.ref 386), some (.int x46)], [], M39)
            refine w_lo dX9_dorm_135 rfl rfl rfl rfl ?_
            refine w_lo dX9_dorm_136 rfl rfl rfl rfl ?_
            refine w_iv dX9_dorm_137 rfl rfl (As := [.int x46]) rfl rfl hJ45.1.1 zs_386 (Nat.le_of_ble_eq_true rfl) ?_
            obtain ⟨P50, hp51, hb⟩ := hb
            replace hb : zHd _ := hb
            refine ZV.imp (u_2339 x46 hN hJ45.1 hp51) ?_
            rintro _ ⟨M48, rfl, hJ49, hq52⟩
            replace hb : zHd _ := hb  (zi M48) (zi_fr hJ49.2) hq52
            have hJ54 := zJ_trans hJ45 hJ49 (zSub_cons (fun _ _ h h' hk => zIR_s (zIR_s (zIR_s (zIR_s (zIR_s (zIR_s (zIR_s (zIR_e (by omega) (by omega) hk)))))))) (zSub_cons (fun _ _ h h' hk => zIR_s (zIR_s (zIR_s (zIR_s (zIR_s (zIR_s (zIR_s (zIR_s (zIR_s (zIR_s (zIR_e (by omega) (by omega) hk))))))))))) (zSub_cons (fun _ _ h h' hk => zIR_s (zIR_s (zIR_s (zIR_s (zIR_s (zIR_s (zIR_s (zIR_s (zIR_s (zIR_s (zIR_s (zIR_s (zIR_s (zIR_s (zIR_s (zIR_e (by omega) (by omega) hk)))))))))))))))) (zSub_cons (fun _ _ h h' hk => zIR_s (zIR_s (zIR_s (zIR_s (zIR_s (zIR_s (zIR_s (zIR_s (zIR_s (zIR_s (zIR_s (zIR_s (zIR_s (zIR_s (zIR_s (zIR_s (zIR_e (by omega) (by omega) hk))))))))))))))))) (zSub_cons (fun _ _ h h' hk => zIR_s (zIR_s (zIR_s (zIR_s (zIR_s (zIR_s (zIR_s (zIR_s (zIR_s (zIR_s (zIR_s (zIR_s (zIR_s (zIR_s (zIR_s (zIR_s (zIR_s (zIR_s (zIR_s (zIR_e (by omega) (by omega) hk)))))))))))))))))))) (zSub_cons (fun _ _ h h' hk => zIR_s (zIR_s (zIR_s (zIR_s (zIR_s (zIR_s (zIR_s (zIR_s (zIR_s (zIR_s (zIR_s (zIR_s (zIR_s (zIR_s (zIR_s (zIR_s (zIR_s (zIR_s (zIR_s (zIR_s (zIR_e (by omega) (by omega) hk))))))))))))))))))))) (zSub_cons (fun _ _ h h' hk => zIR_s (zIR_s (zIR_s (zIR_s (zIR_s (zIR_s (zIR_s (zIR_s (zIR_s (zIR_s (zIR_s (zIR_s (zIR_s (zIR_s (zIR_s (zIR_s (zIR_s (zIR_s (zIR_s (zIR_s (zIR_s (zIR_e (by omega) (by omega) hk)))))))))))))))))))))) zSub_nil)))))))
            show ZW _ _ _ _ _ _ _ (140, [some (.ref 386), some (.int x46)], [], M48)
            refine w_gt dX9_dorm_140 (t := 114) rfl ?_
            obtain ⟨m, hm, hI⟩ := hb
            exact (ih m hm).2.1 M48 x46 hJ54 (zbot _) (ztop _) hI
          · skip
            replace hb : zHd _ := hb.2 h38
            refine w_ieq_t dX9_dorm_125 (t := 143) rfl (by omega) ?_
            obtain ⟨m, hm, hI⟩ := hb
            exact (ih m hm).2.2 M v114_1 hJ (zbot _) (ztop _) hI
      · intro M v143_1 hJ v143_10 v143_11 hI
        have hb : zHd _ := hb143 n (zi M) v143_1.toInt (zi_fr hJ.2)  hI
        refine w_lo dX9_dorm_143 rfl rfl rfl rfl ?_
        refine w_lo dX9_dorm_144 rfl rfl rfl rfl ?_
        refine w_gfi dX9_dorm_145 rfl hJ.1 zs_386 (Nat.le_of_ble_eq_true rfl) zo_386_8 ?_
        intro x55 f56 h57 h58
        replace hb : zHd _ := hb x55.toInt (ziE f56) h57 h58
        refine w_pfi dX9_dorm_148 rfl hJ zs_386 (Nat.le_of_ble_eq_true rfl) zo_386_10 (by omega) (by omega) (zIR_s (zIR_k (by omega) (by omega))) rfl rfl rfl ?_
        intro M59 hJ60 f61 hn62
        replace hb : zHd _ := hb (zi M59) (zi_zup hn62 f61 rfl rfl)
        refine w_lo dX9_dorm_151 rfl rfl rfl rfl ?_
        refine w_lo dX9_dorm_152 rfl rfl rfl rfl ?_
        refine w_gfi dX9_dorm_153 rfl hJ60.1 zs_386 (Nat.le_of_ble_eq_true rfl) zo_386_9 ?_
        intro x64 f65 h66 h67
        replace hb : zHd _ := hb x64.toInt (ziE f65) h66 h67
        refine w_pfi dX9_dorm_156 rfl hJ60 zs_386 (Nat.le_of_ble_eq_true rfl) zo_386_11 (by omega) (by omega) (zIR_s (zIR_s (zIR_s (zIR_s (zIR_k (by omega) (by omega)))))) rfl rfl rfl ?_
        intro M68 hJ69 f70 hn71
        replace hb : zHd _ := hb (zi M68) (zi_zup hn71 f70 rfl rfl)
        refine w_lo dX9_dorm_159 rfl rfl rfl rfl ?_
        have f73 := (hn71 (386) 8 (Or.inr (by decide))).trans ((hn62 (386) 8 (Or.inr (by decide))).trans (f56))
        refine w_gf dX9_dorm_160 rfl hJ69.1.1 zs_386 f73 ?_
        rcases zcut (0 : Int) x55.toInt with h74 | h74
        · skip
          replace hb : zHd _ := hb.1 h74
          refine w_ile_f dX9_dorm_163 (t := 172) rfl (by omega) ?_
          refine w_lo dX9_dorm_166 rfl rfl rfl rfl ?_
          refine w_ic dX9_dorm_167 zi_1 ?_
          refine w_iv dX9_dorm_168 rfl rfl (As := [.int 1]) rfl rfl hJ69.1.1 zs_386 (Nat.le_of_ble_eq_true rfl) ?_
          refine ZV.imp (k_2306 1 (by have := zt_1; omega) (by have := zt_1; omega) hN hJ69.1) ?_
          rintro _ ⟨x78, M75, rfl, h79, h80, hJ76, hq77⟩
          replace hb : zHd _ := hb x78.toInt h79 h80 (zi M75) (zi_fr hJ76.2)
          have hJ82 := zJ_trans hJ69 hJ76 (zSub_cons (fun _ _ h h' hk => zIR_s (zIR_s (zIR_a (by omega) (by omega)))) zSub_nil)
          show ZW _ _ _ _ _ _ _ (171, [some (.ref 386), some (.int v143_1)], [.int x78], M75)
          refine w_eni dX9_dorm_171 rfl rfl ?_
          exact ⟨_, _, rfl, (zbot _), (ztop _), hJ82, hb⟩
        · skip
          replace hb : zHd _ := hb.2 h74
          refine w_ile_t dX9_dorm_163 (t := 172) rfl (by omega) ?_
          refine w_lo dX9_dorm_172 rfl rfl rfl rfl ?_
          refine w_lo dX9_dorm_173 rfl rfl rfl rfl ?_
          refine w_gfi dX9_dorm_174 rfl hJ69.1 zs_386 (Nat.le_of_ble_eq_true rfl) zo_386_35 ?_
          intro x83 f84 h85 h86
          replace hb : zHd _ := hb x83.toInt (ziE f84) h85 h86
          refine w_pfi dX9_dorm_177 rfl hJ69 zs_386 (Nat.le_of_ble_eq_true rfl) zo_386_12 (by omega) (by omega) (zIR_s (zIR_s (zIR_s (zIR_s (zIR_s (zIR_k (by omega) (by omega))))))) rfl rfl rfl ?_
          intro M87 hJ88 f89 hn90
          replace hb : zHd _ := hb (zi M87) (zi_zup hn90 f89 rfl rfl)
          refine w_lo dX9_dorm_180 rfl rfl rfl rfl ?_
          refine w_iv dX9_dorm_181 rfl rfl (As := []) rfl rfl hJ88.1.1 zs_386 (Nat.le_of_ble_eq_true rfl) ?_
          obtain ⟨P94, hp95, hb⟩ := hb
          replace hb : zHd _ := hb
          refine ZV.imp (u_2341 hN hJ88.1 hp95) ?_
          rintro _ ⟨M92, rfl, hJ93, hq96⟩
          replace hb : zHd _ := hb  (zi M92) (zi_fr hJ93.2) hq96
          have hJ98 := zJ_trans hJ88 hJ93 (zSub_cons (fun _ _ h h' hk => zIR_s (zIR_s (zIR_s (zIR_a (by omega) (by omega))))) (zSub_cons (fun _ _ h h' hk => zIR_s (zIR_s (zIR_s (zIR_s (zIR_s (zIR_s (zIR_s (zIR_s (zIR_s (zIR_s (zIR_s (zIR_s (zIR_s (zIR_s (zIR_s (zIR_s (zIR_s (zIR_e (by omega) (by omega) hk)))))))))))))))))) (zSub_cons (fun _ _ h h' hk => zIR_s (zIR_s (zIR_s (zIR_s (zIR_s (zIR_s (zIR_s (zIR_s (zIR_s (zIR_s (zIR_s (zIR_s (zIR_s (zIR_s (zIR_s (zIR_s (zIR_s (zIR_s (zIR_e (by omega) (by omega) hk))))))))))))))))))) zSub_nil)))
          show ZW _ _ _ _ _ _ _ (184, [some (.ref 386), some (.int v143_1)], [], M92)
          refine w_lo dX9_dorm_184 rfl rfl rfl rfl ?_
          refine w_eni dX9_dorm_185 rfl rfl ?_
          exact ⟨_, _, rfl, (zbot _), (ztop _), hJ98, hb⟩
  have hb : zHd _ := hbE
  show ZW _ _ _ _ _ _ _ (0, [some (.ref 386), none], [], M0)
  refine w_lo dX9_dorm_0 rfl rfl rfl rfl ?_
  refine w_lo dX9_dorm_1 rfl rfl rfl rfl ?_
  refine w_gfi dX9_dorm_2 rfl hJ0.1 zs_386 (Nat.le_of_ble_eq_true rfl) zo_386_1 ?_
  intro x99 f100 h101 h102
  replace hb : zHd _ := hb x99.toInt (ziE f100) h101 h102
  refine w_pfi dX9_dorm_5 rfl hJ0 zs_386 (Nat.le_of_ble_eq_true rfl) zo_386_2 (by omega) (by omega) (zIR_s (zIR_s (zIR_s (zIR_s (zIR_s (zIR_s (zIR_k (by omega) (by omega)))))))) rfl rfl rfl ?_
  intro M103 hJ104 f105 hn106
  replace hb : zHd _ := hb (zi M103) (zi_zup hn106 f105 rfl rfl)
  refine w_lo dX9_dorm_8 rfl rfl rfl rfl ?_
  refine w_ic dX9_dorm_9 zi_0 ?_
  refine w_pfi dX9_dorm_10 rfl hJ104 zs_386 (Nat.le_of_ble_eq_true rfl) zo_386_1 (by have := zt_0; omega) (by have := zt_0; omega) (zIR_k (by omega) (by omega)) rfl rfl rfl ?_
  intro M108 hJ109 f110 hn111
  replace hb : zHd _ := hb (zi M108) (zi_zup hn111 f110 rfl zt_0)
  refine w_lo dX9_dorm_13 rfl rfl rfl rfl ?_
  refine w_ic dX9_dorm_14 zi_0 ?_
  refine w_pfi dX9_dorm_15 rfl hJ109 zs_386 (Nat.le_of_ble_eq_true rfl) zo_386_5 (by have := zt_0; omega) (by have := zt_0; omega) (zIR_s (zIR_s (zIR_s (zIR_s (zIR_s (zIR_s (zIR_s (zIR_s (zIR_s (zIR_s (zIR_s (zIR_s (zIR_s (zIR_s (zIR_s (zIR_k (by omega) (by omega))))))))))))))))) rfl rfl rfl ?_
  intro M113 hJ114 f115 hn116
  replace hb : zHd _ := hb (zi M113) (zi_zup hn116 f115 rfl zt_0)
  refine w_lo dX9_dorm_18 rfl rfl rfl rfl ?_
  refine w_ic dX9_dorm_19 zi_0 ?_
  refine w_pfi dX9_dorm_20 rfl hJ114 zs_386 (Nat.le_of_ble_eq_true rfl) zo_386_8 (by have := zt_0; omega) (by have := zt_0; omega) (zIR_s (zIR_s (zIR_s (zIR_s (zIR_s (zIR_s (zIR_s (zIR_s (zIR_s (zIR_s (zIR_s (zIR_s (zIR_s (zIR_s (zIR_s (zIR_s (zIR_s (zIR_s (zIR_s (zIR_s (zIR_k (by omega) (by omega)))))))))))))))))))))) rfl rfl rfl ?_
  intro M118 hJ119 f120 hn121
  replace hb : zHd _ := hb (zi M118) (zi_zup hn121 f120 rfl zt_0)
  refine w_lo dX9_dorm_23 rfl rfl rfl rfl ?_
  refine w_ic dX9_dorm_24 zi_m1 ?_
  refine w_pfi dX9_dorm_25 rfl hJ119 zs_386 (Nat.le_of_ble_eq_true rfl) zo_386_9 (by have := zt_m1; omega) (by have := zt_m1; omega) (zIR_s (zIR_s (zIR_s (zIR_s (zIR_s (zIR_s (zIR_s (zIR_s (zIR_s (zIR_s (zIR_s (zIR_s (zIR_s (zIR_s (zIR_s (zIR_s (zIR_s (zIR_s (zIR_s (zIR_s (zIR_s (zIR_k (by omega) (by omega))))))))))))))))))))))) rfl rfl rfl ?_
  intro M123 hJ124 f125 hn126
  replace hb : zHd _ := hb (zi M123) (zi_zup hn126 f125 rfl zt_m1)
  refine w_lo dX9_dorm_28 rfl rfl rfl rfl ?_
  refine w_ic dX9_dorm_29 zi_1 ?_
  refine w_lo dX9_dorm_30 rfl rfl rfl rfl ?_
  refine w_gfi dX9_dorm_31 rfl hJ124.1 zs_386 (Nat.le_of_ble_eq_true rfl) zo_386_12 ?_
  intro x128 f129 h130 h131
  replace hb : zHd _ := hb x128.toInt (ziE f129) h130 h131
  refine w_sub dX9_dorm_34 (by have := zt_1; omega) ?_
  intro x132 h133
  have := zt_1
  replace hb : zHd _ := hb x132.toInt (by have := zt_1; omega)
  refine w_pfi dX9_dorm_35 rfl hJ124 zs_386 (Nat.le_of_ble_eq_true rfl) zo_386_35 (by omega) (by omega) (zIR_s (zIR_s (zIR_s (zIR_s (zIR_s (zIR_s (zIR_s (zIR_s (zIR_s (zIR_k (by omega) (by omega))))))))))) rfl rfl rfl ?_
  intro M134 hJ135 f136 hn137
  replace hb : zHd _ := hb (zi M134) (zi_zup hn137 f136 rfl rfl)
  refine w_lo dX9_dorm_38 rfl rfl rfl rfl ?_
  refine w_gf dX9_dorm_39 rfl hJ135.1.1 zs_386 (zr_386_13 hJ135.1) ?_
  refine w_lo dX9_dorm_42 rfl rfl rfl rfl ?_
  refine w_gf dX9_dorm_43 rfl hJ135.1.1 zs_386 f136 ?_
  refine w_ic dX9_dorm_46 zi_0 ?_
  refine w_isi dX9_dorm_47 hJ135 zs_388 (by omega) (by omega) zu_388 (by have := zt_0; omega) (by have := zt_0; omega) (zIR_s (zIR_s (zIR_a (by omega) (by omega)))) ?_
  intro M139 hJ140 f141 hn142
  replace hb : zHd _ := hb (zi M139) (zi_zup hn142 f141 rfl zt_0)
  refine w_lo dX9_dorm_48 rfl rfl rfl rfl ?_
  refine w_gf dX9_dorm_49 rfl hJ140.1.1 zs_386 (zr_386_21 hJ140.1) ?_
  refine w_lo dX9_dorm_52 rfl rfl rfl rfl ?_
  have f144 := (hn142 (386) 35 (Or.inl (by omega))).trans (f136)
  refine w_gf dX9_dorm_53 rfl hJ140.1.1 zs_386 f144 ?_
  refine w_ic dX9_dorm_56 zi_0 ?_
  refine w_isi dX9_dorm_57 hJ140 zs_396 (by omega) (by omega) zu_396 (by have := zt_0; omega) (by have := zt_0; omega) (zIR_s (zIR_s (zIR_a (by omega) (by omega)))) ?_
  intro M145 hJ146 f147 hn148
  replace hb : zHd _ := hb (zi M145) (zi_zup hn148 f147 rfl zt_0)
  refine w_lo dX9_dorm_58 rfl rfl rfl rfl ?_
  refine w_gf dX9_dorm_59 rfl hJ146.1.1 zs_386 (zr_386_27 hJ146.1) ?_
  refine w_lo dX9_dorm_62 rfl rfl rfl rfl ?_
  have f150 := (hn148 (386) 35 (Or.inl (by omega))).trans (f144)
  refine w_gf dX9_dorm_63 rfl hJ146.1.1 zs_386 f150 ?_
  refine w_ic dX9_dorm_66 zi_0 ?_
  refine w_isi dX9_dorm_67 hJ146 zs_402 (by omega) (by omega) zu_402 (by have := zt_0; omega) (by have := zt_0; omega) (zIR_s (zIR_s (zIR_a (by omega) (by omega)))) ?_
  intro M151 hJ152 f153 hn154
  replace hb : zHd _ := hb (zi M151) (zi_zup hn154 f153 rfl zt_0)
  refine w_bi dX9_dorm_68 (c := 11) (by decide) ?_
  refine w_lo dX9_dorm_70 rfl rfl rfl rfl ?_
  have f156 := (hn154 (386) 35 (Or.inl (by omega))).trans (f150)
  refine w_gf dX9_dorm_71 rfl hJ152.1.1 zs_386 f156 ?_
  refine w_mulc dX9_dorm_74 zt_11 (by have := zt_11; omega) ?_
  intro x157 h158
  have := zt_11
  replace hb : zHd _ := hb x157.toInt (by have := zt_11; omega)
  refine w_lo (ml' := [some (.ref 386), some (.int x157)]) dX9_dorm_75 rfl rfl rfl rfl ?_
  obtain ⟨m, hI⟩ := hb
  exact (main m).1 M151 x157 hJ152 (by omega) (by omega) hI
set_option maxRecDepth 100000 in
theorem u_2347 {X : List Int32} {d N : Nat} {M0 : zM} (a0 : Int32) (ha00 : (0 : Int) ≤ a0.toInt) (ha01 : a0.toInt ≤ 21) (a1 : Int32) (ha10 : (0 : Int) ≤ a1.toInt) (ha11 : a1.toInt ≤ 21) (hN : N ≤ 600) (hB0 : zB N M0) {Q : zF → Prop} (hb : b_2347 (zi M0) a0.toInt a1.toInt Q) : ZV X (d + 1) 2347 [.ref 386, .int a0, .int a1] M0 (zRV N [(418, 433, 1000)] M0 (fun M' => Q (zi M'))) := by
  have hJ0 : zJ N [(418, 433, 1000)] M0 M0 := zJ_refl hB0
  refine ZV.of (ini := false) rfl (Nat.le_of_ble_eq_true rfl) (by decide +kernel) ?_
  obtain ⟨I14, I184, I254, hbE, hb14, hb184, hb254⟩ := hb
  replace hbE : zHd _ := hbE
  replace hb14 : zHd _ := hb14
  replace hb184 : zHd _ := hb184
  replace hb254 : zHd _ := hb254
  have main : ∀ n : Nat,
      (∀ (M : zM) (v14_1 : Int32) (v14_2 : Int32) (v14_3 : Int32) (o14_4 : Option Value) (o14_5 : Option Value), zJ N [(418, 433, 1000)] M0 M → ((0 : Int) ≤ v14_1.toInt) → (v14_1.toInt ≤ 21) → ((0 : Int) ≤ v14_2.toInt) → (v14_2.toInt ≤ 21) → ((0 : Int) ≤ v14_3.toInt) → (v14_3.toInt ≤ 12) → I14 n (zi M) v14_1.toInt v14_2.toInt v14_3.toInt → ZW X (d + 0) 9 false none cX9_copies (zRV N [(418, 433, 1000)] M0 (fun M' => Q (zi M'))) (14, [some (.ref 386), some (.int v14_1), some (.int v14_2), some (.int v14_3), o14_4, o14_5], [], M)) ∧
      (∀ (M : zM) (v184_1 : Int32) (v184_2 : Int32) (v184_3 : Int32) (o184_4 : Option Value) (o184_5 : Option Value), zJ N [(418, 433, 1000)] M0 M → ((0 : Int) ≤ v184_1.toInt) → (v184_1.toInt ≤ 21) → ((0 : Int) ≤ v184_2.toInt) → (v184_2.toInt ≤ 21) → ((0 : Int) ≤ v184_3.toInt) → (v184_3.toInt ≤ 11) → I184 n (zi M) v184_1.toInt v184_2.toInt v184_3.toInt → ZW X (d + 0) 9 false none cX9_copies (zRV N [(418, 433, 1000)] M0 (fun M' => Q (zi M'))) (184, [some (.ref 386), some (.int v184_1), some (.int v184_2), some (.int v184_3), o184_4, o184_5], [], M)) ∧
      (∀ (M : zM) (v254_1 : Int32) (v254_2 : Int32) (v254_3 : Int32) (o254_4 : Option Value) (o254_5 : Option Value), zJ N [(418, 433, 1000)] M0 M → ((0 : Int) ≤ v254_1.toInt) → (v254_1.toInt ≤ 21) → ((0 : Int) ≤ v254_2.toInt) → (v254_2.toInt ≤ 21) → ((0 : Int) ≤ v254_3.toInt) → (v254_3.toInt ≤ 1000) → I254 n (zi M) v254_1.toInt v254_2.toInt v254_3.toInt → ZW X (d + 0) 9 false none cX9_copies (zRV N [(418, 433, 1000)] M0 (fun M' => Q (zi M'))) (254, [some (.ref 386), some (.int v254_1), some (.int v254_2), some (.int v254_3), o254_4, o254_5], [], M)) := by
    intro n
    induction n using Nat.strongRecOn with
    | _ n ih =>
      refine ⟨?_, ?_, ?_⟩
      · intro M v14_1 v14_2 v14_3 o14_4 o14_5 hJ v14_10 v14_11 v14_20 v14_21 v14_30 v14_31 hI
        have hb : zHd _ := hb14 n (zi M) v14_1.toInt v14_2.toInt v14_3.toInt (zi_fr hJ.2) v14_10 v14_11 v14_20 v14_21 v14_30 v14_31 hI
        refine w_lo dX9_copies_14 rfl rfl rfl rfl ?_
        refine w_bi dX9_copies_15 (c := 12) (by decide) ?_
        rcases zcut v14_3.toInt (12 : Int) with h1 | h1
        · skip
          replace hb : zHd _ := hb.1 h1
          refine w_cge_f dX9_copies_17 (t := 182) rfl (by have := zt_12; omega) ?_
          refine w_bi dX9_copies_20 (c := 12) (by decide) ?_
          refine w_lo dX9_copies_22 rfl rfl rfl rfl ?_
          refine w_mulc dX9_copies_23 zt_12 (by have := zt_12; omega) ?_
          intro x2 h3
          have := zt_12
          replace hb : zHd _ := hb x2.toInt (by have := zt_12; omega)
          refine w_lo dX9_copies_24 rfl rfl rfl rfl ?_
          refine w_add dX9_copies_25 (by omega) ?_
          intro x4 h5
          replace hb : zHd _ := hb x4.toInt (by omega)
          refine w_lo (ml' := [some (.ref 386), some (.int v14_1), some (.int v14_2), some (.int v14_3), some (.int x4), o14_5]) dX9_copies_26 rfl rfl rfl rfl ?_
          refine w_bi dX9_copies_28 (c := 12) (by decide) ?_
          refine w_lo dX9_copies_30 rfl rfl rfl rfl ?_
          refine w_mulc dX9_copies_31 zt_12 (by have := zt_12; omega) ?_
          intro x6 h7
          have := zt_12
          replace hb : zHd _ := hb x6.toInt (by have := zt_12; omega)
          refine w_lo dX9_copies_32 rfl rfl rfl rfl ?_
          refine w_add dX9_copies_33 (by omega) ?_
          intro x8 h9
          replace hb : zHd _ := hb x8.toInt (by omega)
          refine w_lo (ml' := [some (.ref 386), some (.int v14_1), some (.int v14_2), some (.int v14_3), some (.int x4), some (.int x8)]) dX9_copies_34 rfl rfl rfl rfl ?_
          refine w_lo dX9_copies_36 rfl rfl rfl rfl ?_
          refine w_gf dX9_copies_37 rfl hJ.1.1 zs_386 (zr_386_50 hJ.1) ?_
          refine w_lo dX9_copies_40 rfl rfl rfl rfl ?_
          refine w_lo dX9_copies_42 rfl rfl rfl rfl ?_
          refine w_gf dX9_copies_43 rfl hJ.1.1 zs_386 (zr_386_50 hJ.1) ?_
          refine w_lo dX9_copies_46 rfl rfl rfl rfl ?_
          refine w_iai dX9_copies_48 hJ.1 zs_419 (by omega) (by omega) zu_419 ?_
          intro x13 f10 h11 h12
          replace hb : zHd _ := hb x13.toInt (ziEk f10 rfl) h11 h12
          refine w_isi dX9_copies_49 hJ zs_419 (by omega) (by omega) zu_419 (by omega) (by omega) (zIR_a (by omega) (by omega)) ?_
          intro M14 hJ15 f16 hn17
          replace hb : zHd _ := hb (zi M14) (zi_zup hn17 f16 rfl rfl)
          refine w_lo dX9_copies_50 rfl rfl rfl rfl ?_
          refine w_gf dX9_copies_51 rfl hJ15.1.1 zs_386 (zr_386_51 hJ15.1) ?_
          refine w_lo dX9_copies_54 rfl rfl rfl rfl ?_
          refine w_lo dX9_copies_56 rfl rfl rfl rfl ?_
          refine w_gf dX9_copies_57 rfl hJ15.1.1 zs_386 (zr_386_51 hJ15.1) ?_
          refine w_lo dX9_copies_60 rfl rfl rfl rfl ?_
          refine w_iai dX9_copies_62 hJ15.1 zs_420 (by omega) (by omega) zu_420 ?_
          intro x22 f19 h20 h21
          replace hb : zHd _ := hb x22.toInt (ziEk f19 rfl) h20 h21
          refine w_isi dX9_copies_63 hJ15 zs_420 (by omega) (by omega) zu_420 (by omega) (by omega) (zIR_a (by omega) (by omega)) ?_
          intro M23 hJ24 f25 hn26
          replace hb : zHd _ := hb (zi M23) (zi_zup hn26 f25 rfl rfl)
          refine w_lo dX9_copies_64 rfl rfl rfl rfl ?_
          refine w_gf dX9_copies_65 rfl hJ24.1.1 zs_386 (zr_386_52 hJ24.1) ?_
          refine w_lo dX9_copies_68 rfl rfl rfl rfl ?_
          refine w_lo dX9_copies_70 rfl rfl rfl rfl ?_
          refine w_gf dX9_copies_71 rfl hJ24.1.1 zs_386 (zr_386_52 hJ24.1) ?_
          refine w_lo dX9_copies_74 rfl rfl rfl rfl ?_
          refine w_iai dX9_copies_76 hJ24.1 zs_421 (by omega) (by omega) zu_421 ?_
          intro x31 f28 h29 h30
          replace hb : zHd _ := hb x31.toInt (ziEk f28 rfl) h29 h30
          refine w_isi dX9_copies_77 hJ24 zs_421 (by omega) (by omega) zu_421 (by omega) (by omega) (zIR_a (by omega) (by omega)) ?_
          intro M32 hJ33 f34 hn35
          replace hb : zHd _ := hb (zi M32) (zi_zup hn35 f34 rfl rfl)
          refine w_lo dX9_copies_78 rfl rfl rfl rfl ?_
          refine w_gf dX9_copies_79 rfl hJ33.1.1 zs_386 (zr_386_53 hJ33.1) ?_
          refine w_lo dX9_copies_82 rfl rfl rfl rfl ?_
          refine w_lo dX9_copies_84 rfl rfl rfl rfl ?_
          refine w_gf dX9_copies_85 rfl hJ33.1.1 zs_386 (zr_386_53 hJ33.1) ?_
          refine w_lo dX9_copies_88 rfl rfl rfl rfl ?_
          refine w_iai dX9_copies_90 hJ33.1 zs_422 (by omega) (by omega) zu_422 ?_
          intro x40 f37 h38 h39
          replace hb : zHd _ := hb x40.toInt (ziEk f37 rfl)
          refine w_isi dX9_copies_91 hJ33 zs_422 (by omega) (by omega) zu_422 (zbot _) (ztop _) (zIR_a (by omega) (by omega)) ?_
          intro M41 hJ42 f43 hn44
          replace hb : zHd _ := hb (zi M41) (zi_zup hn44 f43 rfl rfl)
          refine w_lo dX9_copies_92 rfl rfl rfl rfl ?_
          refine w_gf dX9_copies_93 rfl hJ42.1.1 zs_386 (zr_386_54 hJ42.1) ?_
          refine w_lo dX9_copies_96 rfl rfl rfl rfl ?_
          refine w_lo dX9_copies_98 rfl rfl rfl rfl ?_
          refine w_gf dX9_copies_99 rfl hJ42.1.1 zs_386 (zr_386_54 hJ42.1) ?_
          refine w_lo dX9_copies_102 rfl rfl rfl rfl ?_
          refine w_iai dX9_copies_104 hJ42.1 zs_423 (by omega) (by omega) zu_423 ?_
          intro x49 f46 h47 h48
          replace hb : zHd _ := hb x49.toInt (ziEk f46 rfl) h47 h48
          refine w_isi dX9_copies_105 hJ42 zs_423 (by omega) (by omega) zu_423 (by omega) (by omega) (zIR_a (by omega) (by omega)) ?_
          intro M50 hJ51 f52 hn53
          replace hb : zHd _ := hb (zi M50) (zi_zup hn53 f52 rfl rfl)
          refine w_lo dX9_copies_106 rfl rfl rfl rfl ?_
          refine w_gf dX9_copies_107 rfl hJ51.1.1 zs_386 (zr_386_55 hJ51.1) ?_
          refine w_lo dX9_copies_110 rfl rfl rfl rfl ?_
          refine w_lo dX9_copies_112 rfl rfl rfl rfl ?_
          refine w_gf dX9_copies_113 rfl hJ51.1.1 zs_386 (zr_386_55 hJ51.1) ?_
          refine w_lo dX9_copies_116 rfl rfl rfl rfl ?_
          refine w_iai dX9_copies_118 hJ51.1 zs_424 (by omega) (by omega) zu_424 ?_
          intro x58 f55 h56 h57
          replace hb : zHd _ := hb x58.toInt (ziEk f55 rfl)
          refine w_isi dX9_copies_119 hJ51 zs_424 (by omega) (by omega) zu_424 (zbot _) (ztop _) (zIR_a (by omega) (by omega)) ?_
          intro M59 hJ60 f61 hn62
          replace hb : zHd _ := hb (zi M59) (zi_zup hn62 f61 rfl rfl)
          refine w_lo dX9_copies_120 rfl rfl rfl rfl ?_
          refine w_gf dX9_copies_121 rfl hJ60.1.1 zs_386 (zr_386_56 hJ60.1) ?_
          refine w_lo dX9_copies_124 rfl rfl rfl rfl ?_
          refine w_lo dX9_copies_126 rfl rfl rfl rfl ?_
          refine w_gf dX9_copies_127 rfl hJ60.1.1 zs_386 (zr_386_56 hJ60.1) ?_
          refine w_lo dX9_copies_130 rfl rfl rfl rfl ?_
          refine w_iai dX9_copies_132 hJ60.1 zs_425 (by omega) (by omega) zu_425 ?_
          intro x67 f64 h65 h66
          replace hb : zHd _ := hb x67.toInt (ziEk f64 rfl) h65 h66
          refine w_isi dX9_copies_133 hJ60 zs_425 (by omega) (by omega) zu_425 (by omega) (by omega) (zIR_a (by omega) (by omega)) ?_
          intro M68 hJ69 f70 hn71
          replace hb : zHd _ := hb (zi M68) (zi_zup hn71 f70 rfl rfl)
          refine w_lo dX9_copies_134 rfl rfl rfl rfl ?_
          refine w_gf dX9_copies_135 rfl hJ69.1.1 zs_386 (zr_386_57 hJ69.1) ?_
          refine w_lo dX9_copies_138 rfl rfl rfl rfl ?_
          refine w_lo dX9_copies_140 rfl rfl rfl rfl ?_
          refine w_gf dX9_copies_141 rfl hJ69.1.1 zs_386 (zr_386_57 hJ69.1) ?_
          refine w_lo dX9_copies_144 rfl rfl rfl rfl ?_
          refine w_iai dX9_copies_146 hJ69.1 zs_426 (by omega) (by omega) zu_426 ?_
          intro x76 f73 h74 h75
          replace hb : zHd _ := hb x76.toInt (ziEk f73 rfl)
          refine w_isi dX9_copies_147 hJ69 zs_426 (by omega) (by omega) zu_426 (zbot _) (ztop _) (zIR_a (by omega) (by omega)) ?_
          intro M77 hJ78 f79 hn80
          replace hb : zHd _ := hb (zi M77) (zi_zup hn80 f79 rfl rfl)
          refine w_lo dX9_copies_148 rfl rfl rfl rfl ?_
          refine w_gf dX9_copies_149 rfl hJ78.1.1 zs_386 (zr_386_58 hJ78.1) ?_
          refine w_lo dX9_copies_152 rfl rfl rfl rfl ?_
          refine w_lo dX9_copies_154 rfl rfl rfl rfl ?_
          refine w_gf dX9_copies_155 rfl hJ78.1.1 zs_386 (zr_386_58 hJ78.1) ?_
          refine w_lo dX9_copies_158 rfl rfl rfl rfl ?_
          refine w_iai dX9_copies_160 hJ78.1 zs_427 (by omega) (by omega) zu_427 ?_
          intro x85 f82 h83 h84
          replace hb : zHd _ := hb x85.toInt (ziEk f82 rfl) h83
          refine w_isi dX9_copies_161 hJ78 zs_427 (by omega) (by omega) zu_427 (by omega) (ztop _) (zIR_a (by omega) (by omega)) ?_
          intro M86 hJ87 f88 hn89
          replace hb : zHd _ := hb (zi M86) (zi_zup hn89 f88 rfl rfl)
          refine w_lo dX9_copies_162 rfl rfl rfl rfl ?_
          refine w_gf dX9_copies_163 rfl hJ87.1.1 zs_386 (zr_386_59 hJ87.1) ?_
          refine w_lo dX9_copies_166 rfl rfl rfl rfl ?_
          refine w_lo dX9_copies_168 rfl rfl rfl rfl ?_
          refine w_gf dX9_copies_169 rfl hJ87.1.1 zs_386 (zr_386_59 hJ87.1) ?_
          refine w_lo dX9_copies_172 rfl rfl rfl rfl ?_
          refine w_iai dX9_copies_174 hJ87.1 zs_428 (by omega) (by omega) zu_428 ?_
          intro x94 f91 h92 h93
          replace hb : zHd _ := hb x94.toInt (ziEk f91 rfl)
          refine w_isi dX9_copies_175 hJ87 zs_428 (by omega) (by omega) zu_428 (zbot _) (ztop _) (zIR_a (by omega) (by omega)) ?_
          intro M95 hJ96 f97 hn98
          replace hb : zHd _ := hb (zi M95) (zi_zup hn98 f97 rfl rfl)
          refine w_inc (kk := 3) dX9_copies_176 rfl (m := 1) (by decide) (by omega) ?_
          intro x100 h101
          refine ⟨_, rfl, ?_⟩
          replace hb : zHd _ := hb x100.toInt h101
          show ZW _ _ _ _ _ _ _ (179, [some (.ref 386), some (.int v14_1), some (.int v14_2), some (.int x100), some (.int x4), some (.int x8)], [], M95)
          refine w_gt dX9_copies_179 (t := 14) rfl ?_
          obtain ⟨m, hm, hI⟩ := hb
          exact (ih m hm).1 M95 v14_1 v14_2 x100 (some (.int x4)) (some (.int x8)) hJ96 (by omega) (by omega) (by omega) (by omega) (by omega) (by omega) hI
        · skip
          replace hb : zHd _ := hb.2 h1
          refine w_cge_t dX9_copies_17 (t := 182) rfl (by have := zt_12; omega) ?_
          refine w_ic dX9_copies_182 zi_0 ?_
          refine w_lo (ml' := [some (.ref 386), some (.int v14_1), some (.int v14_2), some (.int 0), o14_4, o14_5]) dX9_copies_183 rfl rfl rfl rfl ?_
          obtain ⟨m, hm, hI⟩ := hb
          exact (ih m hm).2.1 M v14_1 v14_2 0 o14_4 o14_5 hJ (by omega) (by omega) (by omega) (by omega) (by have := zt_0; omega) (by have := zt_0; omega) hI
      · intro M v184_1 v184_2 v184_3 o184_4 o184_5 hJ v184_10 v184_11 v184_20 v184_21 v184_30 v184_31 hI
        have hb : zHd _ := hb184 n (zi M) v184_1.toInt v184_2.toInt v184_3.toInt (zi_fr hJ.2) v184_10 v184_11 v184_20 v184_21 v184_30 v184_31 hI
        refine w_lo dX9_copies_184 rfl rfl rfl rfl ?_
        refine w_bi dX9_copies_185 (c := 11) (by decide) ?_
        rcases zcut v184_3.toInt (11 : Int) with h102 | h102
        · skip
          replace hb : zHd _ := hb.1 h102
          refine w_cge_f dX9_copies_187 (t := 240) rfl (by have := zt_11; omega) ?_
          refine w_lo dX9_copies_190 rfl rfl rfl rfl ?_
          refine w_gf dX9_copies_191 rfl hJ.1.1 zs_386 (zr_386_60 hJ.1) ?_
          refine w_bi dX9_copies_194 (c := 11) (by decide) ?_
          refine w_lo dX9_copies_196 rfl rfl rfl rfl ?_
          refine w_mulc dX9_copies_197 zt_11 (by have := zt_11; omega) ?_
          intro x103 h104
          have := zt_11
          replace hb : zHd _ := hb x103.toInt (by have := zt_11; omega)
          refine w_lo dX9_copies_198 rfl rfl rfl rfl ?_
          refine w_add dX9_copies_199 (by omega) ?_
          intro x105 h106
          replace hb : zHd _ := hb x105.toInt (by omega)
          refine w_lo dX9_copies_200 rfl rfl rfl rfl ?_
          refine w_gf dX9_copies_201 rfl hJ.1.1 zs_386 (zr_386_60 hJ.1) ?_
          refine w_bi dX9_copies_204 (c := 11) (by decide) ?_
          refine w_lo dX9_copies_206 rfl rfl rfl rfl ?_
          refine w_mulc dX9_copies_207 zt_11 (by have := zt_11; omega) ?_
          intro x107 h108
          have := zt_11
          replace hb : zHd _ := hb x107.toInt (by have := zt_11; omega)
          refine w_lo dX9_copies_208 rfl rfl rfl rfl ?_
          refine w_add dX9_copies_209 (by omega) ?_
          intro x109 h110
          replace hb : zHd _ := hb x109.toInt (by omega)
          refine w_iai dX9_copies_210 hJ.1 zs_429 (by omega) (by omega) zu_429 ?_
          intro x114 f111 h112 h113
          replace hb : zHd _ := hb x114.toInt (ziEk f111 rfl) h112 h113
          refine w_isi dX9_copies_211 hJ zs_429 (by omega) (by omega) zu_429 (by omega) (by omega) (zIR_a (by omega) (by omega)) ?_
          intro M115 hJ116 f117 hn118
          replace hb : zHd _ := hb (zi M115) (zi_zup hn118 f117 rfl rfl)
          refine w_lo dX9_copies_212 rfl rfl rfl rfl ?_
          refine w_gf dX9_copies_213 rfl hJ116.1.1 zs_386 (zr_386_61 hJ116.1) ?_
          refine w_bi dX9_copies_216 (c := 11) (by decide) ?_
          refine w_lo dX9_copies_218 rfl rfl rfl rfl ?_
          refine w_mulc dX9_copies_219 zt_11 (by have := zt_11; omega) ?_
          intro x120 h121
          have := zt_11
          replace hb : zHd _ := hb x120.toInt (by have := zt_11; omega)
          refine w_lo dX9_copies_220 rfl rfl rfl rfl ?_
          refine w_add dX9_copies_221 (by omega) ?_
          intro x122 h123
          replace hb : zHd _ := hb x122.toInt (by omega)
          refine w_lo dX9_copies_222 rfl rfl rfl rfl ?_
          refine w_gf dX9_copies_223 rfl hJ116.1.1 zs_386 (zr_386_61 hJ116.1) ?_
          refine w_bi dX9_copies_226 (c := 11) (by decide) ?_
          refine w_lo dX9_copies_228 rfl rfl rfl rfl ?_
          refine w_mulc dX9_copies_229 zt_11 (by have := zt_11; omega) ?_
          intro x124 h125
          have := zt_11
          replace hb : zHd _ := hb x124.toInt (by have := zt_11; omega)
          refine w_lo dX9_copies_230 rfl rfl rfl rfl ?_
          refine w_add dX9_copies_231 (by omega) ?_
          intro x126 h127
          replace hb : zHd _ := hb x126.toInt (by omega)
          refine w_iai dX9_copies_232 hJ116.1 zs_430 (by omega) (by omega) zu_430 ?_
          intro x131 f128 h129 h130
          replace hb : zHd _ := hb x131.toInt (ziEk f128 rfl)
          refine w_isi dX9_copies_233 hJ116 zs_430 (by omega) (by omega) zu_430 (zbot _) (ztop _) (zIR_a (by omega) (by omega)) ?_
          intro M132 hJ133 f134 hn135
          replace hb : zHd _ := hb (zi M132) (zi_zup hn135 f134 rfl rfl)
          refine w_inc (kk := 3) dX9_copies_234 rfl (m := 1) (by decide) (by omega) ?_
          intro x137 h138
          refine ⟨_, rfl, ?_⟩
          replace hb : zHd _ := hb x137.toInt h138
          show ZW _ _ _ _ _ _ _ (237, [some (.ref 386), some (.int v184_1), some (.int v184_2), some (.int x137), o184_4, o184_5], [], M132)
          refine w_gt dX9_copies_237 (t := 184) rfl ?_
          obtain ⟨m, hm, hI⟩ := hb
          exact (ih m hm).2.1 M132 v184_1 v184_2 x137 o184_4 o184_5 hJ133 (by omega) (by omega) (by omega) (by omega) (by omega) (by omega) hI
        · skip
          replace hb : zHd _ := hb.2 h102
          refine w_cge_t dX9_copies_187 (t := 240) rfl (by have := zt_11; omega) ?_
          refine w_lo dX9_copies_240 rfl rfl rfl rfl ?_
          refine w_gf dX9_copies_241 rfl hJ.1.1 zs_386 (zr_386_62 hJ.1) ?_
          refine w_lo dX9_copies_244 rfl rfl rfl rfl ?_
          refine w_lo dX9_copies_245 rfl rfl rfl rfl ?_
          refine w_gf dX9_copies_246 rfl hJ.1.1 zs_386 (zr_386_62 hJ.1) ?_
          refine w_lo dX9_copies_249 rfl rfl rfl rfl ?_
          refine w_iai dX9_copies_250 hJ.1 zs_431 (by omega) (by omega) zu_431 ?_
          intro x142 f139 h140 h141
          replace hb : zHd _ := hb x142.toInt (ziEk f139 rfl) h140 h141
          refine w_isi dX9_copies_251 hJ zs_431 (by omega) (by omega) zu_431 (by omega) (by omega) (zIR_a (by omega) (by omega)) ?_
          intro M143 hJ144 f145 hn146
          replace hb : zHd _ := hb (zi M143) (zi_zup hn146 f145 rfl rfl)
          refine w_ic dX9_copies_252 zi_0 ?_
          refine w_lo (ml' := [some (.ref 386), some (.int v184_1), some (.int v184_2), some (.int 0), o184_4, o184_5]) dX9_copies_253 rfl rfl rfl rfl ?_
          obtain ⟨m, hm, hI⟩ := hb
          exact (ih m hm).2.2 M143 v184_1 v184_2 0 o184_4 o184_5 hJ144 (by omega) (by omega) (by omega) (by omega) (by have := zt_0; omega) (by have := zt_0; omega) hI
      · intro M v254_1 v254_2 v254_3 o254_4 o254_5 hJ v254_10 v254_11 v254_20 v254_21 v254_30 v254_31 hI
        have hb : zHd _ := hb254 n (zi M) v254_1.toInt v254_2.toInt v254_3.toInt (zi_fr hJ.2) v254_10 v254_11 v254_20 v254_21 v254_30 v254_31 hI
        refine w_lo dX9_copies_254 rfl rfl rfl rfl ?_
        refine w_ic dX9_copies_255 zi_5 ?_
        refine w_lo dX9_copies_256 rfl rfl rfl rfl ?_
        refine w_gf dX9_copies_257 rfl hJ.1.1 zs_386 (zr_386_62 hJ.1) ?_
        refine w_lo dX9_copies_260 rfl rfl rfl rfl ?_
        refine w_iai dX9_copies_261 hJ.1 zs_431 (by omega) (by omega) zu_431 ?_
        intro x151 f148 h149 h150
        replace hb : zHd _ := hb x151.toInt (ziEk f148 rfl) h149 h150
        refine w_mulc dX9_copies_262 zt_5 (by have := zt_5; omega) ?_
        intro x152 h153
        have := zt_5
        replace hb : zHd _ := hb x152.toInt (by have := zt_5; omega)
        rcases zcut v254_3.toInt x152.toInt with h154 | h154
        · skip
          replace hb : zHd _ := hb.1 h154
          refine w_cge_f dX9_copies_263 (t := 296) rfl (by omega) ?_
          refine w_lo dX9_copies_266 rfl rfl rfl rfl ?_
          refine w_gf dX9_copies_267 rfl hJ.1.1 zs_386 (zr_386_63 hJ.1) ?_
          refine w_si dX9_copies_270 (c := 1000) (by decide) ?_
          refine w_lo dX9_copies_273 rfl rfl rfl rfl ?_
          refine w_mulc dX9_copies_274 zt_1000 (by have := zt_1000; omega) ?_
          intro x155 h156
          have := zt_1000
          replace hb : zHd _ := hb x155.toInt (by have := zt_1000; omega)
          refine w_lo dX9_copies_275 rfl rfl rfl rfl ?_
          refine w_add dX9_copies_276 (by omega) ?_
          intro x157 h158
          replace hb : zHd _ := hb x157.toInt (by omega)
          refine w_lo dX9_copies_277 rfl rfl rfl rfl ?_
          refine w_gf dX9_copies_278 rfl hJ.1.1 zs_386 (zr_386_63 hJ.1) ?_
          refine w_si dX9_copies_281 (c := 1000) (by decide) ?_
          refine w_lo dX9_copies_284 rfl rfl rfl rfl ?_
          refine w_mulc dX9_copies_285 zt_1000 (by have := zt_1000; omega) ?_
          intro x159 h160
          have := zt_1000
          replace hb : zHd _ := hb x159.toInt (by have := zt_1000; omega)
          refine w_lo dX9_copies_286 rfl rfl rfl rfl ?_
          refine w_add dX9_copies_287 (by omega) ?_
          intro x161 h162
          replace hb : zHd _ := hb x161.toInt (by omega)
          refine w_iai dX9_copies_288 hJ.1 zs_432 (by omega) (by omega) zu_432 ?_
          intro x166 f163 h164 h165
          replace hb : zHd _ := hb x166.toInt (ziEk f163 rfl)
          refine w_isi dX9_copies_289 hJ zs_432 (by omega) (by omega) zu_432 (zbot _) (ztop _) (zIR_a (by omega) (by omega)) ?_
          intro M167 hJ168 f169 hn170
          replace hb : zHd _ := hb (zi M167) (zi_zup hn170 f169 rfl rfl)
          refine w_inc (kk := 3) dX9_copies_290 rfl (m := 1) (by decide) (by omega) ?_
          intro x172 h173
          refine ⟨_, rfl, ?_⟩
          replace hb : zHd _ := hb x172.toInt h173
          show ZW _ _ _ _ _ _ _ (293, [some (.ref 386), some (.int v254_1), some (.int v254_2), some (.int x172), o254_4, o254_5], [], M167)
          refine w_gt dX9_copies_293 (t := 254) rfl ?_
          obtain ⟨m, hm, hI⟩ := hb
          exact (ih m hm).2.2 M167 v254_1 v254_2 x172 o254_4 o254_5 hJ168 (by omega) (by omega) (by omega) (by omega) (by omega) (by omega) hI
        · skip
          replace hb : zHd _ := hb.2 h154
          refine w_cge_t dX9_copies_263 (t := 296) rfl (by omega) ?_
          refine w_en dX9_copies_296 rfl ?_
          exact ⟨_, rfl, hJ, hb⟩
  have hb : zHd _ := hbE
  show ZW _ _ _ _ _ _ _ (0, [some (.ref 386), some (.int a0), some (.int a1), none, none, none], [], M0)
  refine w_lo dX9_copies_0 rfl rfl rfl rfl ?_
  refine w_gf dX9_copies_1 rfl hJ0.1.1 zs_386 (zr_386_49 hJ0.1) ?_
  refine w_lo dX9_copies_4 rfl rfl rfl rfl ?_
  refine w_lo dX9_copies_5 rfl rfl rfl rfl ?_
  refine w_gf dX9_copies_6 rfl hJ0.1.1 zs_386 (zr_386_49 hJ0.1) ?_
  refine w_lo dX9_copies_9 rfl rfl rfl rfl ?_
  refine w_iai dX9_copies_10 hJ0.1 zs_418 (by omega) (by omega) zu_418 ?_
  intro x177 f174 h175 h176
  replace hb : zHd _ := hb x177.toInt (ziEk f174 rfl)
  refine w_isi dX9_copies_11 hJ0 zs_418 (by omega) (by omega) zu_418 (zbot _) (ztop _) (zIR_a (by omega) (by omega)) ?_
  intro M178 hJ179 f180 hn181
  replace hb : zHd _ := hb (zi M178) (zi_zup hn181 f180 rfl rfl)
  refine w_ic dX9_copies_12 zi_0 ?_
  refine w_lo (ml' := [some (.ref 386), some (.int a0), some (.int a1), some (.int 0), none, none]) dX9_copies_13 rfl rfl rfl rfl ?_
  obtain ⟨m, hI⟩ := hb
  exact (main m).1 M178 a0 a1 0 none none hJ179 (by omega) (by omega) (by omega) (by omega) (by have := zt_0; omega) (by have := zt_0; omega) hI
set_option maxRecDepth 100000 in
theorem u_2345 {X : List Int32} {d N : Nat} {M0 : zM}  (hN : N ≤ 600) (hB0 : zB N M0) {Q : Int → zF → Prop} (hb : b_2345 (zi M0) Q) : ZV X (d + 2) 2345 [.ref 386] M0 (zRI N [(415, 416, 1000), (418, 433, 1000), (386, 387, 65)] M0 (0) (1) (fun v M' => Q v.toInt (zi M'))) := by
  have hJ0 : zJ N [(415, 416, 1000), (418, 433, 1000), (386, 387, 65)] M0 M0 := zJ_refl hB0
  refine ZV.of (ini := false) rfl (Nat.le_of_ble_eq_true rfl) (by decide +kernel) ?_
  unfold b_2345 at hb
  replace hb : zHd _ := hb
  show ZW _ _ _ _ _ _ _ (0, [some (.ref 386)], [], M0)
  refine w_lo dX9_undo_0 rfl rfl rfl rfl ?_
  refine w_gfi dX9_undo_1 rfl hJ0.1 zs_386 (Nat.le_of_ble_eq_true rfl) zo_386_65 ?_
  intro x1 f2 h3 h4
  replace hb : zHd _ := hb x1.toInt (ziE f2) h3 h4
  rcases Int.decEq x1.toInt (0 : Int) with h5 | h5
  · skip
    replace hb : zHd _ := hb.1 h5
    refine w_ine_t dX9_undo_4 (t := 21) rfl (by omega) ?_
    refine w_lo dX9_undo_21 rfl rfl rfl rfl ?_
    refine w_pu dX9_undo_22 rfl rfl ?_
    refine w_gf dX9_undo_23 rfl hJ0.1.1 zs_386 f2 ?_
    refine w_ic dX9_undo_26 zi_1 ?_
    refine w_sub dX9_undo_27 (by have := zt_1; omega) ?_
    intro x6 h7
    have := zt_1
    replace hb : zHd _ := hb x6.toInt (by have := zt_1; omega)
    refine w_pfi dX9_undo_28 rfl hJ0 zs_386 (Nat.le_of_ble_eq_true rfl) zo_386_65 (by omega) (by omega) (zIR_s (zIR_s (zIR_k (by omega) (by omega)))) rfl rfl rfl ?_
    intro M8 hJ9 f10 hn11
    replace hb : zHd _ := hb (zi M8) (zi_zup hn11 f10 rfl rfl)
    refine w_lo dX9_undo_31 rfl rfl rfl rfl ?_
    refine w_ic dX9_undo_32 zi_0 ?_
    refine w_lo dX9_undo_33 rfl rfl rfl rfl ?_
    refine w_lo dX9_undo_34 rfl rfl rfl rfl ?_
    refine w_gf dX9_undo_35 rfl hJ9.1.1 zs_386 f10 ?_
    refine w_iv dX9_undo_38 rfl rfl (As := [.int x6]) rfl rfl hJ9.1.1 zs_386 (Nat.le_of_ble_eq_true rfl) ?_
    refine ZV.of (ini := false) rfl (Nat.le_of_ble_eq_true rfl) (by decide +kernel) ?_
    show ZW _ _ _ _ _ _ _ (0, [some (.ref 386), some (.int x6)], [], M8)
    refine w_ic dX9_ring_0 zi_2 ?_
    refine w_lo dX9_ring_1 rfl rfl rfl rfl ?_
    refine w_gfi dX9_ring_2 rfl hJ9.1 zs_386 (Nat.le_of_ble_eq_true rfl) zo_386_64 ?_
    intro x13 f14 h15 h16
    replace hb : zHd _ := hb x13.toInt (ziE f14) h15 h16
    refine w_lo dX9_ring_5 rfl rfl rfl rfl ?_
    refine w_add dX9_ring_6 (by omega) ?_
    intro x17 h18
    replace hb : zHd _ := hb x17.toInt (by omega)
    refine w_bi dX9_ring_7 (c := 20) (by decide) ?_
    refine w_remE dX9_ring_9 (by omega) (by have := zt_20; omega) ?_
    intro x19 h20 h21 h22
    have := zt_20
    replace hb : zHd _ := hb x19.toInt h20 (by omega) (by rw [h22, zt_20])
    refine w_add dX9_ring_10 (by have := zt_2; omega) ?_
    intro x23 h24
    have := zt_2
    replace hb : zHd _ := hb x23.toInt (by have := zt_2; omega)
    refine w_eni dX9_ring_11 rfl rfl ?_
    show ZW _ _ _ _ _ _ _ (41, [some (.ref 386)], [.int x23, .int 0, .ref 386], M8)
    refine w_iv dX9_undo_41 rfl rfl (As := [.int 0, .int x23]) rfl rfl hJ9.1.1 zs_386 (Nat.le_of_ble_eq_true rfl) ?_
    obtain ⟨P27, hp28, hb⟩ := hb
    replace hb : zHd _ := hb
    have hp28c : b_2347 (zi M8) (0 : Int32).toInt x23.toInt P27 := by rw [zt_0]; exact hp28
    refine ZV.imp (u_2347 0 (by have := zt_0; omega) (by have := zt_0; omega) x23 (by omega) (by omega) hN hJ9.1 hp28c) ?_
    rintro _ ⟨M25, rfl, hJ26, hq29⟩
    replace hb : zHd _ := hb  (zi M25) (zi_fr hJ26.2) hq29
    have hJ31 := zJ_trans hJ9 hJ26 (zSub_cons (fun _ _ h h' hk => zIR_s (zIR_a (by omega) (by omega))) zSub_nil)
    show ZW _ _ _ _ _ _ _ (44, [some (.ref 386)], [], M25)
    refine w_ic dX9_undo_44 zi_1 ?_
    refine w_en dX9_undo_45 rfl ?_
    exact ⟨_, _, rfl, (by have := zt_1; omega), (by have := zt_1; omega), hJ31, hb⟩
  · skip
    replace hb : zHd _ := hb.2 h5
    refine w_ine_f dX9_undo_4 (t := 21) rfl (by omega) ?_
    refine w_lo dX9_undo_7 rfl rfl rfl rfl ?_
    refine w_ic dX9_undo_8 zi_4 ?_
    refine w_iv dX9_undo_9 rfl rfl (As := [.int 4]) rfl rfl hJ0.1.1 zs_386 (Nat.le_of_ble_eq_true rfl) ?_
    refine ZV.imp (k_2306 4 (by have := zt_4; omega) (by have := zt_4; omega) hN hJ0.1) ?_
    rintro _ ⟨x35, M32, rfl, h36, h37, hJ33, hq34⟩
    replace hb : zHd _ := hb x35.toInt h36 h37 (zi M32) (zi_fr hJ33.2)
    have hJ39 := zJ_trans hJ0 hJ33 (zSub_cons (fun _ _ h h' hk => zIR_a (by omega) (by omega)) zSub_nil)
    show ZW _ _ _ _ _ _ _ (12, [some (.ref 386)], [.int x35], M32)
    refine w_ilt_t dX9_undo_12 (t := 19) rfl (by omega) ?_
    refine w_ic dX9_undo_19 zi_0 ?_
    refine w_en dX9_undo_20 rfl ?_
    exact ⟨_, _, rfl, (by have := zt_0; omega), (by have := zt_0; omega), hJ39, hb⟩
set_option maxRecDepth 100000 in
theorem u_2354 {X : List Int32} {d N : Nat} {M0 : zM} (a0 : Int32) (ha00 : (0 : Int) ≤ a0.toInt) (ha01 : a0.toInt ≤ 1) (a1 : Int32) (ha10 : (0 : Int) ≤ a1.toInt) (ha11 : a1.toInt ≤ 11) (hN : N ≤ 600) (hB0 : zB N M0) {Q : Int → zF → Prop} (hb : b_2354 (zi M0) a0.toInt a1.toInt Q) : ZV X (d + 2) 2354 [.ref 386, .int a0, .int a1] M0 (zRI N [] M0 (-1) (11) (fun v M' => Q v.toInt (zi M'))) := by
  have hJ0 : zJ N [] M0 M0 := zJ_refl hB0
  refine ZV.of (ini := false) rfl (Nat.le_of_ble_eq_true rfl) (by decide +kernel) ?_
  obtain ⟨I2, hbE, hb2⟩ := hb
  replace hbE : zHd _ := hbE
  replace hb2 : zHd _ := hb2
  have main : ∀ n : Nat,
      (∀ (M : zM) (v2_1 : Int32) (v2_2 : Int32) (v2_3 : Int32), zJ N [] M0 M → ((0 : Int) ≤ v2_1.toInt) → (v2_1.toInt ≤ 1) → ((0 : Int) ≤ v2_2.toInt) → (v2_2.toInt ≤ 11) → ((0 : Int) ≤ v2_3.toInt) → (v2_3.toInt ≤ 12) → I2 n (zi M) v2_1.toInt v2_2.toInt v2_3.toInt → ZW X (d + 1) 9 false (some .int) cX9_placeOf (zRI N [] M0 (-1) (11) (fun v M' => Q v.toInt (zi M'))) (2, [some (.ref 386), some (.int v2_1), some (.int v2_2), some (.int v2_3)], [], M)) := by
    intro n
    induction n using Nat.strongRecOn with
    | _ n ih =>
      · intro M v2_1 v2_2 v2_3 hJ v2_10 v2_11 v2_20 v2_21 v2_30 v2_31 hI
        have hb : zHd _ := hb2 n (zi M) v2_1.toInt v2_2.toInt v2_3.toInt (zi_fr hJ.2) v2_10 v2_11 v2_20 v2_21 v2_30 v2_31 hI
        refine w_lo dX9_placeOf_2 rfl rfl rfl rfl ?_
        refine w_lo dX9_placeOf_3 rfl rfl rfl rfl ?_
        refine w_iv dX9_placeOf_4 rfl rfl (As := []) rfl rfl hJ.1.1 zs_386 (Nat.le_of_ble_eq_true rfl) ?_
        refine ZV.of (ini := false) rfl (Nat.le_of_ble_eq_true rfl) (by decide +kernel) ?_
        show ZW _ _ _ _ _ _ _ (0, [some (.ref 386)], [], M)
        refine w_lo dX9_many_0 rfl rfl rfl rfl ?_
        refine w_gf dX9_many_1 rfl hJ.1.1 zs_386 (zr_386_13 hJ.1) ?_
        refine w_lo dX9_many_4 rfl rfl rfl rfl ?_
        refine w_gfi dX9_many_5 rfl hJ.1 zs_386 (Nat.le_of_ble_eq_true rfl) zo_386_12 ?_
        intro x1 f2 h3 h4
        replace hb : zHd _ := hb x1.toInt (ziE f2) h3 h4
        refine w_iai dX9_many_8 hJ.1 zs_388 (by omega) (by omega) zu_388 ?_
        intro x8 f5 h6 h7
        replace hb : zHd _ := hb x8.toInt (ziEk f5 rfl) h6 h7
        refine w_eni dX9_many_9 rfl rfl ?_
        show ZW _ _ _ _ _ _ _ (7, [some (.ref 386), some (.int v2_1), some (.int v2_2), some (.int v2_3)], [.int x8, .int v2_3], M)
        rcases zcut v2_3.toInt x8.toInt with h9 | h9
        · skip
          replace hb : zHd _ := hb.1 h9
          refine w_cge_f dX9_placeOf_7 (t := 33) rfl (by omega) ?_
          refine w_lo dX9_placeOf_10 rfl rfl rfl rfl ?_
          refine w_gf dX9_placeOf_11 rfl hJ.1.1 zs_386 (zr_386_50 hJ.1) ?_
          refine w_bi dX9_placeOf_14 (c := 12) (by decide) ?_
          refine w_lo dX9_placeOf_16 rfl rfl rfl rfl ?_
          refine w_mulc dX9_placeOf_17 zt_12 (by have := zt_12; omega) ?_
          intro x10 h11
          have := zt_12
          replace hb : zHd _ := hb x10.toInt (by have := zt_12; omega)
          refine w_lo dX9_placeOf_18 rfl rfl rfl rfl ?_
          refine w_add dX9_placeOf_19 (by omega) ?_
          intro x12 h13
          replace hb : zHd _ := hb x12.toInt (by omega)
          refine w_iai dX9_placeOf_20 hJ.1 zs_419 (by omega) (by omega) zu_419 ?_
          intro x17 f14 h15 h16
          replace hb : zHd _ := hb x17.toInt (ziEk f14 rfl) h15 h16
          refine w_lo dX9_placeOf_21 rfl rfl rfl rfl ?_
          rcases Int.decEq x17.toInt v2_2.toInt with h18 | h18
          · skip
            replace hb : zHd _ := hb.1 h18
            refine w_cne_t dX9_placeOf_22 (t := 27) rfl (by omega) ?_
            refine w_inc (kk := 3) dX9_placeOf_27 rfl (m := 1) (by decide) (by omega) ?_
            intro x19 h20
            refine ⟨_, rfl, ?_⟩
            replace hb : zHd _ := hb x19.toInt h20
            show ZW _ _ _ _ _ _ _ (30, [some (.ref 386), some (.int v2_1), some (.int v2_2), some (.int x19)], [], M)
            refine w_gt dX9_placeOf_30 (t := 2) rfl ?_
            obtain ⟨m, hm, hI⟩ := hb
            exact (ih m hm) M v2_1 v2_2 x19 hJ (by omega) (by omega) (by omega) (by omega) (by omega) (by omega) hI
          · skip
            replace hb : zHd _ := hb.2 h18
            refine w_cne_f dX9_placeOf_22 (t := 27) rfl (by omega) ?_
            refine w_lo dX9_placeOf_25 rfl rfl rfl rfl ?_
            refine w_eni dX9_placeOf_26 rfl rfl ?_
            exact ⟨_, _, rfl, (by omega), (by omega), hJ, hb⟩
        · skip
          replace hb : zHd _ := hb.2 h9
          refine w_cge_t dX9_placeOf_7 (t := 33) rfl (by omega) ?_
          refine w_ic dX9_placeOf_33 zi_m1 ?_
          refine w_en dX9_placeOf_34 rfl ?_
          exact ⟨_, _, rfl, (by have := zt_m1; omega), (by have := zt_m1; omega), hJ, hb⟩
  have hb : zHd _ := hbE
  show ZW _ _ _ _ _ _ _ (0, [some (.ref 386), some (.int a0), some (.int a1), none], [], M0)
  refine w_ic dX9_placeOf_0 zi_0 ?_
  refine w_lo (ml' := [some (.ref 386), some (.int a0), some (.int a1), some (.int 0)]) dX9_placeOf_1 rfl rfl rfl rfl ?_
  obtain ⟨m, hI⟩ := hb
  exact (main m) M0 a0 a1 0 hJ0 (by omega) (by omega) (by omega) (by omega) (by have := zt_0; omega) (by have := zt_0; omega) hI
