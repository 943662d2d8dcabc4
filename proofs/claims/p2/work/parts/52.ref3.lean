/-! the reference's methods come to an end, within the box (wip/safe/mks.py) -/
set_option maxRecDepth 100000 in
theorem k_2367 {X : List Int32} {d N : Nat} {M0 : zM} (a0 : Int32) (ha00 : (0 : Int) ≤ a0.toInt) (ha01 : a0.toInt ≤ 11) (hN : N ≤ 600) (hB0 : zB N M0) : ZV X (d + 2) 2367 [.ref 386, .int a0] M0 (zRI N [] M0 (0) (2) (fun _ _ => True)) := by
  have hJ0 : zJ N [] M0 M0 := zJ_refl hB0
  refine ZV.of (ini := false) rfl (Nat.le_of_ble_eq_true rfl) (by decide +kernel) ?_
  have main : ∀ n : Nat,
      (∀ (M : zM) (v33_1 : Int32) (o33_2 : Option Value), zJ N [] M0 M → ((0 : Int) ≤ v33_1.toInt) → (v33_1.toInt ≤ 11) → 1 < (n : Int) → ZW X (d + 1) 9 false (some .int) cX9_beside (zRI N [] M0 (0) (2) (fun _ _ => True)) (33, [some (.ref 386), some (.int v33_1), o33_2], [], M)) := by
    intro n
    induction n with
    | zero =>
      exact (fun M v33_1 o33_2 hJ v33_10 v33_11 hn => absurd hn (by omega))
    | succ n ih =>
      have ih33 := ih
      · intro M v33_1 o33_2 hJ v33_10 v33_11 hn
        refine w_ic dX9_beside_33 zi_0 ?_
        refine w_lo (ml' := [some (.ref 386), some (.int v33_1), some (.int 0)]) dX9_beside_34 rfl rfl rfl rfl ?_
        refine w_lo dX9_beside_35 rfl rfl rfl rfl ?_
        refine w_lo dX9_beside_36 rfl rfl rfl rfl ?_
        refine w_lo dX9_beside_37 rfl rfl rfl rfl ?_
        refine w_gfi dX9_beside_38 rfl hJ.1 zs_386 (Nat.le_of_ble_eq_true rfl) zo_386_70 ?_
        intro x1 f2 h3 h4
        refine w_ic dX9_beside_41 zi_1 ?_
        refine w_sub dX9_beside_42 (by have := zt_1; omega) ?_
        intro x5 h6
        have := zt_1
        rcases zcut v33_1.toInt x5.toInt with h7 | h7
        · skip
          refine w_cge_f dX9_beside_43 (t := 73) rfl (by omega) ?_
          refine w_lo dX9_beside_46 rfl rfl rfl rfl ?_
          refine w_lo dX9_beside_47 rfl rfl rfl rfl ?_
          refine w_iv dX9_beside_48 rfl rfl (As := [.int v33_1]) rfl rfl hJ.1.1 zs_386 (Nat.le_of_ble_eq_true rfl) ?_
          refine ZV.of (ini := false) rfl (Nat.le_of_ble_eq_true rfl) (by decide +kernel) ?_
          show ZW _ _ _ _ _ _ _ (0, [some (.ref 386), some (.int v33_1)], [], M)
          refine w_lo dX9_isTied_0 rfl rfl rfl rfl ?_
          refine w_gf dX9_isTied_1 rfl hJ.1.1 zs_386 (zr_386_60 hJ.1) ?_
          refine w_bi dX9_isTied_4 (c := 11) (by decide) ?_
          refine w_lo dX9_isTied_6 rfl rfl rfl rfl ?_
          refine w_gfi dX9_isTied_7 rfl hJ.1 zs_386 (Nat.le_of_ble_eq_true rfl) zo_386_71 ?_
          intro x8 f9 h10 h11
          rcases Int.decEq x8.toInt (0 : Int) with h12 | h12
          · skip
            refine w_ieq_f dX9_isTied_10 (t := 17) rfl (by omega) ?_
            refine w_ic dX9_isTied_13 zi_0 ?_
            refine w_gt dX9_isTied_14 (t := 21) rfl ?_
            refine w_pu (st' := [.int 0, .ref 429]) dX9_isTied_21 rfl rfl ?_
            refine w_lo dX9_isTied_22 rfl rfl rfl rfl ?_
            refine w_add dX9_isTied_23 (by have := zt_0; omega) ?_
            intro x13 h14
            have := zt_0
            refine w_iai dX9_isTied_24 hJ.1 zs_429 (by omega) (by omega) zu_429 ?_
            intro x18 f15 h16 h17
            refine w_ic dX9_isTied_25 zi_1 ?_
            rcases Int.decEq x18.toInt (1 : Int) with h19 | h19
            · skip
              refine w_cne_t dX9_isTied_26 (t := 33) rfl (by have := zt_1; omega) ?_
              refine w_ic dX9_isTied_33 zi_0 ?_
              refine w_en dX9_isTied_34 rfl ?_
              show ZW _ _ _ _ _ _ _ (51, [some (.ref 386), some (.int v33_1), some (.int 0)], [.int 0, .int 0], M)
              refine w_ieq_t dX9_beside_51 (t := 73) rfl (by have := zt_0; omega) ?_
              refine w_ic dX9_beside_73 zi_0 ?_
              refine w_pu (st' := [.int 0]) dX9_beside_74 rfl rfl ?_
              refine w_en dX9_beside_75 rfl ?_
              exact ⟨_, _, rfl, (by have := zt_0; omega), (by have := zt_0; omega), hJ, trivial⟩
            · skip
              refine w_cne_f dX9_isTied_26 (t := 33) rfl (by have := zt_1; omega) ?_
              refine w_ic dX9_isTied_29 zi_1 ?_
              refine w_gt dX9_isTied_30 (t := 34) rfl ?_
              refine w_en dX9_isTied_34 rfl ?_
              show ZW _ _ _ _ _ _ _ (51, [some (.ref 386), some (.int v33_1), some (.int 0)], [.int 1, .int 0], M)
              refine w_ieq_f dX9_beside_51 (t := 73) rfl (by have := zt_1; omega) ?_
              refine w_lo dX9_beside_54 rfl rfl rfl rfl ?_
              refine w_lo dX9_beside_55 rfl rfl rfl rfl ?_
              refine w_gf dX9_beside_56 rfl hJ.1.1 zs_386 (zr_386_69 hJ.1) ?_
              refine w_lo dX9_beside_59 rfl rfl rfl rfl ?_
              refine w_ic dX9_beside_60 zi_1 ?_
              refine w_add dX9_beside_61 (by have := zt_1; omega) ?_
              intro x20 h21
              have := zt_1
              refine w_iai dX9_beside_62 hJ.1 zs_434 (by omega) (by omega) zu_434 ?_
              intro x25 f22 h23 h24
              refine w_iv dX9_beside_63 rfl rfl (As := [.int x25]) rfl rfl hJ.1.1 zs_386 (Nat.le_of_ble_eq_true rfl) ?_
              refine ZV.of (ini := false) rfl (Nat.le_of_ble_eq_true rfl) (by decide +kernel) ?_
              show ZW _ _ _ _ _ _ _ (0, [some (.ref 386), some (.int x25)], [], M)
              refine w_lo dX9_snores_0 rfl rfl rfl rfl ?_
              refine w_gf dX9_snores_1 rfl hJ.1.1 zs_386 (zr_386_19 hJ.1) ?_
              refine w_bi dX9_snores_4 (c := 12) (by decide) ?_
              refine w_lo dX9_snores_6 rfl rfl rfl rfl ?_
              refine w_gfi dX9_snores_7 rfl hJ.1 zs_386 (Nat.le_of_ble_eq_true rfl) zo_386_12 ?_
              intro x26 f27 h28 h29
              refine w_mulc dX9_snores_10 zt_12 (by have := zt_12; omega) ?_
              intro x30 h31
              have := zt_12
              refine w_lo dX9_snores_11 rfl rfl rfl rfl ?_
              refine w_add dX9_snores_12 (by omega) ?_
              intro x32 h33
              refine w_iai dX9_snores_13 hJ.1 zs_394 (by omega) (by omega) zu_394 ?_
              intro x37 f34 h35 h36
              refine w_ic dX9_snores_14 zi_1 ?_
              refine w_and dX9_snores_15 (m := 1) zt_1 (by omega) ?_
              intro x38 h39 h40
              rcases Int.decEq x38.toInt (0 : Int) with h41 | h41
              · skip
                refine w_ieq_f dX9_snores_16 (t := 23) rfl (by omega) ?_
                refine w_ic dX9_snores_19 zi_1 ?_
                refine w_gt dX9_snores_20 (t := 24) rfl ?_
                refine w_en dX9_snores_24 rfl ?_
                show ZW _ _ _ _ _ _ _ (66, [some (.ref 386), some (.int v33_1), some (.int 0)], [.int 1, .int 0], M)
                refine w_ieq_f dX9_beside_66 (t := 73) rfl (by have := zt_1; omega) ?_
                refine w_ic dX9_beside_69 zi_1 ?_
                refine w_gt dX9_beside_70 (t := 74) rfl ?_
                refine w_pu (st' := [.int 1]) dX9_beside_74 rfl rfl ?_
                refine w_en dX9_beside_75 rfl ?_
                exact ⟨_, _, rfl, (by have := zt_1; omega), (by have := zt_1; omega), hJ, trivial⟩
              · skip
                refine w_ieq_t dX9_snores_16 (t := 23) rfl (by omega) ?_
                refine w_ic dX9_snores_23 zi_0 ?_
                refine w_en dX9_snores_24 rfl ?_
                show ZW _ _ _ _ _ _ _ (66, [some (.ref 386), some (.int v33_1), some (.int 0)], [.int 0, .int 0], M)
                refine w_ieq_t dX9_beside_66 (t := 73) rfl (by have := zt_0; omega) ?_
                refine w_ic dX9_beside_73 zi_0 ?_
                refine w_pu (st' := [.int 0]) dX9_beside_74 rfl rfl ?_
                refine w_en dX9_beside_75 rfl ?_
                exact ⟨_, _, rfl, (by have := zt_0; omega), (by have := zt_0; omega), hJ, trivial⟩
          · skip
            refine w_ieq_t dX9_isTied_10 (t := 17) rfl (by omega) ?_
            refine w_lo dX9_isTied_17 rfl rfl rfl rfl ?_
            refine w_gfi dX9_isTied_18 rfl hJ.1 zs_386 (Nat.le_of_ble_eq_true rfl) zo_386_72 ?_
            intro x42 f43 h44 h45
            refine w_mulc dX9_isTied_21 zt_11 (by have := zt_11; omega) ?_
            intro x46 h47
            have := zt_11
            refine w_lo dX9_isTied_22 rfl rfl rfl rfl ?_
            refine w_add dX9_isTied_23 (by omega) ?_
            intro x48 h49
            refine w_iai dX9_isTied_24 hJ.1 zs_429 (by omega) (by omega) zu_429 ?_
            intro x53 f50 h51 h52
            refine w_ic dX9_isTied_25 zi_1 ?_
            rcases Int.decEq x53.toInt (1 : Int) with h54 | h54
            · skip
              refine w_cne_t dX9_isTied_26 (t := 33) rfl (by have := zt_1; omega) ?_
              refine w_ic dX9_isTied_33 zi_0 ?_
              refine w_en dX9_isTied_34 rfl ?_
              show ZW _ _ _ _ _ _ _ (51, [some (.ref 386), some (.int v33_1), some (.int 0)], [.int 0, .int 0], M)
              refine w_ieq_t dX9_beside_51 (t := 73) rfl (by have := zt_0; omega) ?_
              refine w_ic dX9_beside_73 zi_0 ?_
              refine w_pu (st' := [.int 0]) dX9_beside_74 rfl rfl ?_
              refine w_en dX9_beside_75 rfl ?_
              exact ⟨_, _, rfl, (by have := zt_0; omega), (by have := zt_0; omega), hJ, trivial⟩
            · skip
              refine w_cne_f dX9_isTied_26 (t := 33) rfl (by have := zt_1; omega) ?_
              refine w_ic dX9_isTied_29 zi_1 ?_
              refine w_gt dX9_isTied_30 (t := 34) rfl ?_
              refine w_en dX9_isTied_34 rfl ?_
              show ZW _ _ _ _ _ _ _ (51, [some (.ref 386), some (.int v33_1), some (.int 0)], [.int 1, .int 0], M)
              refine w_ieq_f dX9_beside_51 (t := 73) rfl (by have := zt_1; omega) ?_
              refine w_lo dX9_beside_54 rfl rfl rfl rfl ?_
              refine w_lo dX9_beside_55 rfl rfl rfl rfl ?_
              refine w_gf dX9_beside_56 rfl hJ.1.1 zs_386 (zr_386_69 hJ.1) ?_
              refine w_lo dX9_beside_59 rfl rfl rfl rfl ?_
              refine w_ic dX9_beside_60 zi_1 ?_
              refine w_add dX9_beside_61 (by have := zt_1; omega) ?_
              intro x55 h56
              have := zt_1
              refine w_iai dX9_beside_62 hJ.1 zs_434 (by omega) (by omega) zu_434 ?_
              intro x60 f57 h58 h59
              refine w_iv dX9_beside_63 rfl rfl (As := [.int x60]) rfl rfl hJ.1.1 zs_386 (Nat.le_of_ble_eq_true rfl) ?_
              refine ZV.of (ini := false) rfl (Nat.le_of_ble_eq_true rfl) (by decide +kernel) ?_
              show ZW _ _ _ _ _ _ _ (0, [some (.ref 386), some (.int x60)], [], M)
              refine w_lo dX9_snores_0 rfl rfl rfl rfl ?_
              refine w_gf dX9_snores_1 rfl hJ.1.1 zs_386 (zr_386_19 hJ.1) ?_
              refine w_bi dX9_snores_4 (c := 12) (by decide) ?_
              refine w_lo dX9_snores_6 rfl rfl rfl rfl ?_
              refine w_gfi dX9_snores_7 rfl hJ.1 zs_386 (Nat.le_of_ble_eq_true rfl) zo_386_12 ?_
              intro x61 f62 h63 h64
              refine w_mulc dX9_snores_10 zt_12 (by have := zt_12; omega) ?_
              intro x65 h66
              have := zt_12
              refine w_lo dX9_snores_11 rfl rfl rfl rfl ?_
              refine w_add dX9_snores_12 (by omega) ?_
              intro x67 h68
              refine w_iai dX9_snores_13 hJ.1 zs_394 (by omega) (by omega) zu_394 ?_
              intro x72 f69 h70 h71
              refine w_ic dX9_snores_14 zi_1 ?_
              refine w_and dX9_snores_15 (m := 1) zt_1 (by omega) ?_
              intro x73 h74 h75
              rcases Int.decEq x73.toInt (0 : Int) with h76 | h76
              · skip
                refine w_ieq_f dX9_snores_16 (t := 23) rfl (by omega) ?_
                refine w_ic dX9_snores_19 zi_1 ?_
                refine w_gt dX9_snores_20 (t := 24) rfl ?_
                refine w_en dX9_snores_24 rfl ?_
                show ZW _ _ _ _ _ _ _ (66, [some (.ref 386), some (.int v33_1), some (.int 0)], [.int 1, .int 0], M)
                refine w_ieq_f dX9_beside_66 (t := 73) rfl (by have := zt_1; omega) ?_
                refine w_ic dX9_beside_69 zi_1 ?_
                refine w_gt dX9_beside_70 (t := 74) rfl ?_
                refine w_pu (st' := [.int 1]) dX9_beside_74 rfl rfl ?_
                refine w_en dX9_beside_75 rfl ?_
                exact ⟨_, _, rfl, (by have := zt_1; omega), (by have := zt_1; omega), hJ, trivial⟩
              · skip
                refine w_ieq_t dX9_snores_16 (t := 23) rfl (by omega) ?_
                refine w_ic dX9_snores_23 zi_0 ?_
                refine w_en dX9_snores_24 rfl ?_
                show ZW _ _ _ _ _ _ _ (66, [some (.ref 386), some (.int v33_1), some (.int 0)], [.int 0, .int 0], M)
                refine w_ieq_t dX9_beside_66 (t := 73) rfl (by have := zt_0; omega) ?_
                refine w_ic dX9_beside_73 zi_0 ?_
                refine w_pu (st' := [.int 0]) dX9_beside_74 rfl rfl ?_
                refine w_en dX9_beside_75 rfl ?_
                exact ⟨_, _, rfl, (by have := zt_0; omega), (by have := zt_0; omega), hJ, trivial⟩
        · skip
          refine w_cge_t dX9_beside_43 (t := 73) rfl (by omega) ?_
          refine w_ic dX9_beside_73 zi_0 ?_
          refine w_pu (st' := [.int 0]) dX9_beside_74 rfl rfl ?_
          refine w_en dX9_beside_75 rfl ?_
          exact ⟨_, _, rfl, (by have := zt_0; omega), (by have := zt_0; omega), hJ, trivial⟩
  have ih33 := main 6
  show ZW _ _ _ _ _ _ _ (0, [some (.ref 386), some (.int a0), none], [], M0)
  refine w_lo dX9_beside_0 rfl rfl rfl rfl ?_
  rcases zcut (0 : Int) a0.toInt with h77 | h77
  · skip
    refine w_ile_f dX9_beside_1 (t := 33) rfl (by omega) ?_
    refine w_lo dX9_beside_4 rfl rfl rfl rfl ?_
    refine w_lo dX9_beside_5 rfl rfl rfl rfl ?_
    refine w_ic dX9_beside_6 zi_1 ?_
    refine w_sub dX9_beside_7 (by have := zt_1; omega) ?_
    intro x78 h79
    have := zt_1
    refine w_iv dX9_beside_8 rfl rfl (As := [.int x78]) rfl rfl hJ0.1.1 zs_386 (Nat.le_of_ble_eq_true rfl) ?_
    refine ZV.of (ini := false) rfl (Nat.le_of_ble_eq_true rfl) (by decide +kernel) ?_
    show ZW _ _ _ _ _ _ _ (0, [some (.ref 386), some (.int x78)], [], M0)
    refine w_lo dX9_isTied_0 rfl rfl rfl rfl ?_
    refine w_gf dX9_isTied_1 rfl hJ0.1.1 zs_386 (zr_386_60 hJ0.1) ?_
    refine w_bi dX9_isTied_4 (c := 11) (by decide) ?_
    refine w_lo dX9_isTied_6 rfl rfl rfl rfl ?_
    refine w_gfi dX9_isTied_7 rfl hJ0.1 zs_386 (Nat.le_of_ble_eq_true rfl) zo_386_71 ?_
    intro x80 f81 h82 h83
    rcases Int.decEq x80.toInt (0 : Int) with h84 | h84
    · skip
      refine w_ieq_f dX9_isTied_10 (t := 17) rfl (by omega) ?_
      refine w_ic dX9_isTied_13 zi_0 ?_
      refine w_gt dX9_isTied_14 (t := 21) rfl ?_
      refine w_pu (st' := [.int 0, .ref 429]) dX9_isTied_21 rfl rfl ?_
      refine w_lo dX9_isTied_22 rfl rfl rfl rfl ?_
      refine w_add dX9_isTied_23 (by have := zt_0; omega) ?_
      intro x85 h86
      have := zt_0
      refine w_iai dX9_isTied_24 hJ0.1 zs_429 (by omega) (by omega) zu_429 ?_
      intro x90 f87 h88 h89
      refine w_ic dX9_isTied_25 zi_1 ?_
      rcases Int.decEq x90.toInt (1 : Int) with h91 | h91
      · skip
        refine w_cne_t dX9_isTied_26 (t := 33) rfl (by have := zt_1; omega) ?_
        refine w_ic dX9_isTied_33 zi_0 ?_
        refine w_en dX9_isTied_34 rfl ?_
        show ZW _ _ _ _ _ _ _ (11, [some (.ref 386), some (.int a0), none], [.int 0], M0)
        refine w_ieq_t dX9_beside_11 (t := 33) rfl (by have := zt_0; omega) ?_
        exact ih33 M0 a0 none hJ0 (by omega) (by omega) (by omega)
      · skip
        refine w_cne_f dX9_isTied_26 (t := 33) rfl (by have := zt_1; omega) ?_
        refine w_ic dX9_isTied_29 zi_1 ?_
        refine w_gt dX9_isTied_30 (t := 34) rfl ?_
        refine w_en dX9_isTied_34 rfl ?_
        show ZW _ _ _ _ _ _ _ (11, [some (.ref 386), some (.int a0), none], [.int 1], M0)
        refine w_ieq_f dX9_beside_11 (t := 33) rfl (by have := zt_1; omega) ?_
        refine w_lo dX9_beside_14 rfl rfl rfl rfl ?_
        refine w_lo dX9_beside_15 rfl rfl rfl rfl ?_
        refine w_gf dX9_beside_16 rfl hJ0.1.1 zs_386 (zr_386_69 hJ0.1) ?_
        refine w_lo dX9_beside_19 rfl rfl rfl rfl ?_
        refine w_ic dX9_beside_20 zi_1 ?_
        refine w_sub dX9_beside_21 (by have := zt_1; omega) ?_
        intro x92 h93
        have := zt_1
        refine w_iai dX9_beside_22 hJ0.1 zs_434 (by omega) (by omega) zu_434 ?_
        intro x97 f94 h95 h96
        refine w_iv dX9_beside_23 rfl rfl (As := [.int x97]) rfl rfl hJ0.1.1 zs_386 (Nat.le_of_ble_eq_true rfl) ?_
        refine ZV.of (ini := false) rfl (Nat.le_of_ble_eq_true rfl) (by decide +kernel) ?_
        show ZW _ _ _ _ _ _ _ (0, [some (.ref 386), some (.int x97)], [], M0)
        refine w_lo dX9_snores_0 rfl rfl rfl rfl ?_
        refine w_gf dX9_snores_1 rfl hJ0.1.1 zs_386 (zr_386_19 hJ0.1) ?_
        refine w_bi dX9_snores_4 (c := 12) (by decide) ?_
        refine w_lo dX9_snores_6 rfl rfl rfl rfl ?_
        refine w_gfi dX9_snores_7 rfl hJ0.1 zs_386 (Nat.le_of_ble_eq_true rfl) zo_386_12 ?_
        intro x98 f99 h100 h101
        refine w_mulc dX9_snores_10 zt_12 (by have := zt_12; omega) ?_
        intro x102 h103
        have := zt_12
        refine w_lo dX9_snores_11 rfl rfl rfl rfl ?_
        refine w_add dX9_snores_12 (by omega) ?_
        intro x104 h105
        refine w_iai dX9_snores_13 hJ0.1 zs_394 (by omega) (by omega) zu_394 ?_
        intro x109 f106 h107 h108
        refine w_ic dX9_snores_14 zi_1 ?_
        refine w_and dX9_snores_15 (m := 1) zt_1 (by omega) ?_
        intro x110 h111 h112
        rcases Int.decEq x110.toInt (0 : Int) with h113 | h113
        · skip
          refine w_ieq_f dX9_snores_16 (t := 23) rfl (by omega) ?_
          refine w_ic dX9_snores_19 zi_1 ?_
          refine w_gt dX9_snores_20 (t := 24) rfl ?_
          refine w_en dX9_snores_24 rfl ?_
          show ZW _ _ _ _ _ _ _ (26, [some (.ref 386), some (.int a0), none], [.int 1], M0)
          refine w_ieq_f dX9_beside_26 (t := 33) rfl (by have := zt_1; omega) ?_
          refine w_ic dX9_beside_29 zi_1 ?_
          refine w_gt dX9_beside_30 (t := 34) rfl ?_
          refine w_lo (ml' := [some (.ref 386), some (.int a0), some (.int 1)]) dX9_beside_34 rfl rfl rfl rfl ?_
          refine w_lo dX9_beside_35 rfl rfl rfl rfl ?_
          refine w_lo dX9_beside_36 rfl rfl rfl rfl ?_
          refine w_lo dX9_beside_37 rfl rfl rfl rfl ?_
          refine w_gfi dX9_beside_38 rfl hJ0.1 zs_386 (Nat.le_of_ble_eq_true rfl) zo_386_70 ?_
          intro x114 f115 h116 h117
          refine w_ic dX9_beside_41 zi_1 ?_
          refine w_sub dX9_beside_42 (by have := zt_1; omega) ?_
          intro x118 h119
          have := zt_1
          rcases zcut a0.toInt x118.toInt with h120 | h120
          · skip
            refine w_cge_f dX9_beside_43 (t := 73) rfl (by omega) ?_
            refine w_lo dX9_beside_46 rfl rfl rfl rfl ?_
            refine w_lo dX9_beside_47 rfl rfl rfl rfl ?_
            refine w_iv dX9_beside_48 rfl rfl (As := [.int a0]) rfl rfl hJ0.1.1 zs_386 (Nat.le_of_ble_eq_true rfl) ?_
            refine ZV.of (ini := false) rfl (Nat.le_of_ble_eq_true rfl) (by decide +kernel) ?_
            show ZW _ _ _ _ _ _ _ (0, [some (.ref 386), some (.int a0)], [], M0)
            refine w_lo dX9_isTied_0 rfl rfl rfl rfl ?_
            refine w_gf dX9_isTied_1 rfl hJ0.1.1 zs_386 (zr_386_60 hJ0.1) ?_
            refine w_bi dX9_isTied_4 (c := 11) (by decide) ?_
            refine w_lo dX9_isTied_6 rfl rfl rfl rfl ?_
            refine w_gf dX9_isTied_7 rfl hJ0.1.1 zs_386 f81 ?_
            refine w_ieq_f dX9_isTied_10 (t := 17) rfl (by omega) ?_
            refine w_ic dX9_isTied_13 zi_0 ?_
            refine w_gt dX9_isTied_14 (t := 21) rfl ?_
            refine w_pu (st' := [.int 0, .ref 429]) dX9_isTied_21 rfl rfl ?_
            refine w_lo dX9_isTied_22 rfl rfl rfl rfl ?_
            refine w_add dX9_isTied_23 (by have := zt_0; omega) ?_
            intro x121 h122
            have := zt_0
            refine w_iai dX9_isTied_24 hJ0.1 zs_429 (by omega) (by omega) zu_429 ?_
            intro x126 f123 h124 h125
            refine w_ic dX9_isTied_25 zi_1 ?_
            rcases Int.decEq x126.toInt (1 : Int) with h127 | h127
            · skip
              refine w_cne_t dX9_isTied_26 (t := 33) rfl (by have := zt_1; omega) ?_
              refine w_ic dX9_isTied_33 zi_0 ?_
              refine w_en dX9_isTied_34 rfl ?_
              show ZW _ _ _ _ _ _ _ (51, [some (.ref 386), some (.int a0), some (.int 1)], [.int 0, .int 1], M0)
              refine w_ieq_t dX9_beside_51 (t := 73) rfl (by have := zt_0; omega) ?_
              refine w_ic dX9_beside_73 zi_0 ?_
              refine w_pu (st' := [.int 1]) dX9_beside_74 rfl rfl ?_
              refine w_en dX9_beside_75 rfl ?_
              exact ⟨_, _, rfl, (by have := zt_1; omega), (by have := zt_1; omega), hJ0, trivial⟩
            · skip
              refine w_cne_f dX9_isTied_26 (t := 33) rfl (by have := zt_1; omega) ?_
              refine w_ic dX9_isTied_29 zi_1 ?_
              refine w_gt dX9_isTied_30 (t := 34) rfl ?_
              refine w_en dX9_isTied_34 rfl ?_
              show ZW _ _ _ _ _ _ _ (51, [some (.ref 386), some (.int a0), some (.int 1)], [.int 1, .int 1], M0)
              refine w_ieq_f dX9_beside_51 (t := 73) rfl (by have := zt_1; omega) ?_
              refine w_lo dX9_beside_54 rfl rfl rfl rfl ?_
              refine w_lo dX9_beside_55 rfl rfl rfl rfl ?_
              refine w_gf dX9_beside_56 rfl hJ0.1.1 zs_386 (zr_386_69 hJ0.1) ?_
              refine w_lo dX9_beside_59 rfl rfl rfl rfl ?_
              refine w_ic dX9_beside_60 zi_1 ?_
              refine w_add dX9_beside_61 (by have := zt_1; omega) ?_
              intro x128 h129
              have := zt_1
              refine w_iai dX9_beside_62 hJ0.1 zs_434 (by omega) (by omega) zu_434 ?_
              intro x133 f130 h131 h132
              refine w_iv dX9_beside_63 rfl rfl (As := [.int x133]) rfl rfl hJ0.1.1 zs_386 (Nat.le_of_ble_eq_true rfl) ?_
              refine ZV.of (ini := false) rfl (Nat.le_of_ble_eq_true rfl) (by decide +kernel) ?_
              show ZW _ _ _ _ _ _ _ (0, [some (.ref 386), some (.int x133)], [], M0)
              refine w_lo dX9_snores_0 rfl rfl rfl rfl ?_
              refine w_gf dX9_snores_1 rfl hJ0.1.1 zs_386 (zr_386_19 hJ0.1) ?_
              refine w_bi dX9_snores_4 (c := 12) (by decide) ?_
              refine w_lo dX9_snores_6 rfl rfl rfl rfl ?_
              refine w_gf dX9_snores_7 rfl hJ0.1.1 zs_386 f99 ?_
              refine w_mulc dX9_snores_10 zt_12 (by have := zt_12; omega) ?_
              intro x134 h135
              have := zt_12
              refine w_lo dX9_snores_11 rfl rfl rfl rfl ?_
              refine w_add dX9_snores_12 (by omega) ?_
              intro x136 h137
              refine w_iai dX9_snores_13 hJ0.1 zs_394 (by omega) (by omega) zu_394 ?_
              intro x141 f138 h139 h140
              refine w_ic dX9_snores_14 zi_1 ?_
              refine w_and dX9_snores_15 (m := 1) zt_1 (by omega) ?_
              intro x142 h143 h144
              rcases Int.decEq x142.toInt (0 : Int) with h145 | h145
              · skip
                refine w_ieq_f dX9_snores_16 (t := 23) rfl (by omega) ?_
                refine w_ic dX9_snores_19 zi_1 ?_
                refine w_gt dX9_snores_20 (t := 24) rfl ?_
                refine w_en dX9_snores_24 rfl ?_
                show ZW _ _ _ _ _ _ _ (66, [some (.ref 386), some (.int a0), some (.int 1)], [.int 1, .int 1], M0)
                refine w_ieq_f dX9_beside_66 (t := 73) rfl (by have := zt_1; omega) ?_
                refine w_ic dX9_beside_69 zi_1 ?_
                refine w_gt dX9_beside_70 (t := 74) rfl ?_
                refine w_pu (st' := [.int 2]) dX9_beside_74 rfl rfl ?_
                refine w_en dX9_beside_75 rfl ?_
                exact ⟨_, _, rfl, (by have := zt_2; omega), (by have := zt_2; omega), hJ0, trivial⟩
              · skip
                refine w_ieq_t dX9_snores_16 (t := 23) rfl (by omega) ?_
                refine w_ic dX9_snores_23 zi_0 ?_
                refine w_en dX9_snores_24 rfl ?_
                show ZW _ _ _ _ _ _ _ (66, [some (.ref 386), some (.int a0), some (.int 1)], [.int 0, .int 1], M0)
                refine w_ieq_t dX9_beside_66 (t := 73) rfl (by have := zt_0; omega) ?_
                refine w_ic dX9_beside_73 zi_0 ?_
                refine w_pu (st' := [.int 1]) dX9_beside_74 rfl rfl ?_
                refine w_en dX9_beside_75 rfl ?_
                exact ⟨_, _, rfl, (by have := zt_1; omega), (by have := zt_1; omega), hJ0, trivial⟩
          · skip
            refine w_cge_t dX9_beside_43 (t := 73) rfl (by omega) ?_
            refine w_ic dX9_beside_73 zi_0 ?_
            refine w_pu (st' := [.int 1]) dX9_beside_74 rfl rfl ?_
            refine w_en dX9_beside_75 rfl ?_
            exact ⟨_, _, rfl, (by have := zt_1; omega), (by have := zt_1; omega), hJ0, trivial⟩
        · skip
          refine w_ieq_t dX9_snores_16 (t := 23) rfl (by omega) ?_
          refine w_ic dX9_snores_23 zi_0 ?_
          refine w_en dX9_snores_24 rfl ?_
          show ZW _ _ _ _ _ _ _ (26, [some (.ref 386), some (.int a0), none], [.int 0], M0)
          refine w_ieq_t dX9_beside_26 (t := 33) rfl (by have := zt_0; omega) ?_
          exact ih33 M0 a0 none hJ0 (by omega) (by omega) (by omega)
    · skip
      refine w_ieq_t dX9_isTied_10 (t := 17) rfl (by omega) ?_
      refine w_lo dX9_isTied_17 rfl rfl rfl rfl ?_
      refine w_gfi dX9_isTied_18 rfl hJ0.1 zs_386 (Nat.le_of_ble_eq_true rfl) zo_386_72 ?_
      intro x146 f147 h148 h149
      refine w_mulc dX9_isTied_21 zt_11 (by have := zt_11; omega) ?_
      intro x150 h151
      have := zt_11
      refine w_lo dX9_isTied_22 rfl rfl rfl rfl ?_
      refine w_add dX9_isTied_23 (by omega) ?_
      intro x152 h153
      refine w_iai dX9_isTied_24 hJ0.1 zs_429 (by omega) (by omega) zu_429 ?_
      intro x157 f154 h155 h156
      refine w_ic dX9_isTied_25 zi_1 ?_
      rcases Int.decEq x157.toInt (1 : Int) with h158 | h158
      · skip
        refine w_cne_t dX9_isTied_26 (t := 33) rfl (by have := zt_1; omega) ?_
        refine w_ic dX9_isTied_33 zi_0 ?_
        refine w_en dX9_isTied_34 rfl ?_
        show ZW _ _ _ _ _ _ _ (11, [some (.ref 386), some (.int a0), none], [.int 0], M0)
        refine w_ieq_t dX9_beside_11 (t := 33) rfl (by have := zt_0; omega) ?_
        exact ih33 M0 a0 none hJ0 (by omega) (by omega) (by omega)
      · skip
        refine w_cne_f dX9_isTied_26 (t := 33) rfl (by have := zt_1; omega) ?_
        refine w_ic dX9_isTied_29 zi_1 ?_
        refine w_gt dX9_isTied_30 (t := 34) rfl ?_
        refine w_en dX9_isTied_34 rfl ?_
        show ZW _ _ _ _ _ _ _ (11, [some (.ref 386), some (.int a0), none], [.int 1], M0)
        refine w_ieq_f dX9_beside_11 (t := 33) rfl (by have := zt_1; omega) ?_
        refine w_lo dX9_beside_14 rfl rfl rfl rfl ?_
        refine w_lo dX9_beside_15 rfl rfl rfl rfl ?_
        refine w_gf dX9_beside_16 rfl hJ0.1.1 zs_386 (zr_386_69 hJ0.1) ?_
        refine w_lo dX9_beside_19 rfl rfl rfl rfl ?_
        refine w_ic dX9_beside_20 zi_1 ?_
        refine w_sub dX9_beside_21 (by have := zt_1; omega) ?_
        intro x159 h160
        have := zt_1
        refine w_iai dX9_beside_22 hJ0.1 zs_434 (by omega) (by omega) zu_434 ?_
        intro x164 f161 h162 h163
        refine w_iv dX9_beside_23 rfl rfl (As := [.int x164]) rfl rfl hJ0.1.1 zs_386 (Nat.le_of_ble_eq_true rfl) ?_
        refine ZV.of (ini := false) rfl (Nat.le_of_ble_eq_true rfl) (by decide +kernel) ?_
        show ZW _ _ _ _ _ _ _ (0, [some (.ref 386), some (.int x164)], [], M0)
        refine w_lo dX9_snores_0 rfl rfl rfl rfl ?_
        refine w_gf dX9_snores_1 rfl hJ0.1.1 zs_386 (zr_386_19 hJ0.1) ?_
        refine w_bi dX9_snores_4 (c := 12) (by decide) ?_
        refine w_lo dX9_snores_6 rfl rfl rfl rfl ?_
        refine w_gfi dX9_snores_7 rfl hJ0.1 zs_386 (Nat.le_of_ble_eq_true rfl) zo_386_12 ?_
        intro x165 f166 h167 h168
        refine w_mulc dX9_snores_10 zt_12 (by have := zt_12; omega) ?_
        intro x169 h170
        have := zt_12
        refine w_lo dX9_snores_11 rfl rfl rfl rfl ?_
        refine w_add dX9_snores_12 (by omega) ?_
        intro x171 h172
        refine w_iai dX9_snores_13 hJ0.1 zs_394 (by omega) (by omega) zu_394 ?_
        intro x176 f173 h174 h175
        refine w_ic dX9_snores_14 zi_1 ?_
        refine w_and dX9_snores_15 (m := 1) zt_1 (by omega) ?_
        intro x177 h178 h179
        rcases Int.decEq x177.toInt (0 : Int) with h180 | h180
        · skip
          refine w_ieq_f dX9_snores_16 (t := 23) rfl (by omega) ?_
          refine w_ic dX9_snores_19 zi_1 ?_
          refine w_gt dX9_snores_20 (t := 24) rfl ?_
          refine w_en dX9_snores_24 rfl ?_
          show ZW _ _ _ _ _ _ _ (26, [some (.ref 386), some (.int a0), none], [.int 1], M0)
          refine w_ieq_f dX9_beside_26 (t := 33) rfl (by have := zt_1; omega) ?_
          refine w_ic dX9_beside_29 zi_1 ?_
          refine w_gt dX9_beside_30 (t := 34) rfl ?_
          refine w_lo (ml' := [some (.ref 386), some (.int a0), some (.int 1)]) dX9_beside_34 rfl rfl rfl rfl ?_
          refine w_lo dX9_beside_35 rfl rfl rfl rfl ?_
          refine w_lo dX9_beside_36 rfl rfl rfl rfl ?_
          refine w_lo dX9_beside_37 rfl rfl rfl rfl ?_
          refine w_gfi dX9_beside_38 rfl hJ0.1 zs_386 (Nat.le_of_ble_eq_true rfl) zo_386_70 ?_
          intro x181 f182 h183 h184
          refine w_ic dX9_beside_41 zi_1 ?_
          refine w_sub dX9_beside_42 (by have := zt_1; omega) ?_
          intro x185 h186
          have := zt_1
          rcases zcut a0.toInt x185.toInt with h187 | h187
          · skip
            refine w_cge_f dX9_beside_43 (t := 73) rfl (by omega) ?_
            refine w_lo dX9_beside_46 rfl rfl rfl rfl ?_
            refine w_lo dX9_beside_47 rfl rfl rfl rfl ?_
            refine w_iv dX9_beside_48 rfl rfl (As := [.int a0]) rfl rfl hJ0.1.1 zs_386 (Nat.le_of_ble_eq_true rfl) ?_
            refine ZV.of (ini := false) rfl (Nat.le_of_ble_eq_true rfl) (by decide +kernel) ?_
            show ZW _ _ _ _ _ _ _ (0, [some (.ref 386), some (.int a0)], [], M0)
            refine w_lo dX9_isTied_0 rfl rfl rfl rfl ?_
            refine w_gf dX9_isTied_1 rfl hJ0.1.1 zs_386 (zr_386_60 hJ0.1) ?_
            refine w_bi dX9_isTied_4 (c := 11) (by decide) ?_
            refine w_lo dX9_isTied_6 rfl rfl rfl rfl ?_
            refine w_gf dX9_isTied_7 rfl hJ0.1.1 zs_386 f81 ?_
            refine w_ieq_t dX9_isTied_10 (t := 17) rfl (by omega) ?_
            refine w_lo dX9_isTied_17 rfl rfl rfl rfl ?_
            refine w_gf dX9_isTied_18 rfl hJ0.1.1 zs_386 f147 ?_
            refine w_mulc dX9_isTied_21 zt_11 (by have := zt_11; omega) ?_
            intro x188 h189
            have := zt_11
            refine w_lo dX9_isTied_22 rfl rfl rfl rfl ?_
            refine w_add dX9_isTied_23 (by omega) ?_
            intro x190 h191
            refine w_iai dX9_isTied_24 hJ0.1 zs_429 (by omega) (by omega) zu_429 ?_
            intro x195 f192 h193 h194
            refine w_ic dX9_isTied_25 zi_1 ?_
            rcases Int.decEq x195.toInt (1 : Int) with h196 | h196
            · skip
              refine w_cne_t dX9_isTied_26 (t := 33) rfl (by have := zt_1; omega) ?_
              refine w_ic dX9_isTied_33 zi_0 ?_
              refine w_en dX9_isTied_34 rfl ?_
              show ZW _ _ _ _ _ _ _ (51, [some (.ref 386), some (.int a0), some (.int 1)], [.int 0, .int 1], M0)
              refine w_ieq_t dX9_beside_51 (t := 73) rfl (by have := zt_0; omega) ?_
              refine w_ic dX9_beside_73 zi_0 ?_
              refine w_pu (st' := [.int 1]) dX9_beside_74 rfl rfl ?_
              refine w_en dX9_beside_75 rfl ?_
              exact ⟨_, _, rfl, (by have := zt_1; omega), (by have := zt_1; omega), hJ0, trivial⟩
            · skip
              refine w_cne_f dX9_isTied_26 (t := 33) rfl (by have := zt_1; omega) ?_
              refine w_ic dX9_isTied_29 zi_1 ?_
              refine w_gt dX9_isTied_30 (t := 34) rfl ?_
              refine w_en dX9_isTied_34 rfl ?_
              show ZW _ _ _ _ _ _ _ (51, [some (.ref 386), some (.int a0), some (.int 1)], [.int 1, .int 1], M0)
              refine w_ieq_f dX9_beside_51 (t := 73) rfl (by have := zt_1; omega) ?_
              refine w_lo dX9_beside_54 rfl rfl rfl rfl ?_
              refine w_lo dX9_beside_55 rfl rfl rfl rfl ?_
              refine w_gf dX9_beside_56 rfl hJ0.1.1 zs_386 (zr_386_69 hJ0.1) ?_
              refine w_lo dX9_beside_59 rfl rfl rfl rfl ?_
              refine w_ic dX9_beside_60 zi_1 ?_
              refine w_add dX9_beside_61 (by have := zt_1; omega) ?_
              intro x197 h198
              have := zt_1
              refine w_iai dX9_beside_62 hJ0.1 zs_434 (by omega) (by omega) zu_434 ?_
              intro x202 f199 h200 h201
              refine w_iv dX9_beside_63 rfl rfl (As := [.int x202]) rfl rfl hJ0.1.1 zs_386 (Nat.le_of_ble_eq_true rfl) ?_
              refine ZV.of (ini := false) rfl (Nat.le_of_ble_eq_true rfl) (by decide +kernel) ?_
              show ZW _ _ _ _ _ _ _ (0, [some (.ref 386), some (.int x202)], [], M0)
              refine w_lo dX9_snores_0 rfl rfl rfl rfl ?_
              refine w_gf dX9_snores_1 rfl hJ0.1.1 zs_386 (zr_386_19 hJ0.1) ?_
              refine w_bi dX9_snores_4 (c := 12) (by decide) ?_
              refine w_lo dX9_snores_6 rfl rfl rfl rfl ?_
              refine w_gf dX9_snores_7 rfl hJ0.1.1 zs_386 f166 ?_
              refine w_mulc dX9_snores_10 zt_12 (by have := zt_12; omega) ?_
              intro x203 h204
              have := zt_12
              refine w_lo dX9_snores_11 rfl rfl rfl rfl ?_
              refine w_add dX9_snores_12 (by omega) ?_
              intro x205 h206
              refine w_iai dX9_snores_13 hJ0.1 zs_394 (by omega) (by omega) zu_394 ?_
              intro x210 f207 h208 h209
              refine w_ic dX9_snores_14 zi_1 ?_
              refine w_and dX9_snores_15 (m := 1) zt_1 (by omega) ?_
              intro x211 h212 h213
              rcases Int.decEq x211.toInt (0 : Int) with h214 | h214
              · skip
                refine w_ieq_f dX9_snores_16 (t := 23) rfl (by omega) ?_
                refine w_ic dX9_snores_19 zi_1 ?_
                refine w_gt dX9_snores_20 (t := 24) rfl ?_
                refine w_en dX9_snores_24 rfl ?_
                show ZW _ _ _ _ _ _ _ (66, [some (.ref 386), some (.int a0), some (.int 1)], [.int 1, .int 1], M0)
                refine w_ieq_f dX9_beside_66 (t := 73) rfl (by have := zt_1; omega) ?_
                refine w_ic dX9_beside_69 zi_1 ?_
                refine w_gt dX9_beside_70 (t := 74) rfl ?_
                refine w_pu (st' := [.int 2]) dX9_beside_74 rfl rfl ?_
                refine w_en dX9_beside_75 rfl ?_
                exact ⟨_, _, rfl, (by have := zt_2; omega), (by have := zt_2; omega), hJ0, trivial⟩
              · skip
                refine w_ieq_t dX9_snores_16 (t := 23) rfl (by omega) ?_
                refine w_ic dX9_snores_23 zi_0 ?_
                refine w_en dX9_snores_24 rfl ?_
                show ZW _ _ _ _ _ _ _ (66, [some (.ref 386), some (.int a0), some (.int 1)], [.int 0, .int 1], M0)
                refine w_ieq_t dX9_beside_66 (t := 73) rfl (by have := zt_0; omega) ?_
                refine w_ic dX9_beside_73 zi_0 ?_
                refine w_pu (st' := [.int 1]) dX9_beside_74 rfl rfl ?_
                refine w_en dX9_beside_75 rfl ?_
                exact ⟨_, _, rfl, (by have := zt_1; omega), (by have := zt_1; omega), hJ0, trivial⟩
          · skip
            refine w_cge_t dX9_beside_43 (t := 73) rfl (by omega) ?_
            refine w_ic dX9_beside_73 zi_0 ?_
            refine w_pu (st' := [.int 1]) dX9_beside_74 rfl rfl ?_
            refine w_en dX9_beside_75 rfl ?_
            exact ⟨_, _, rfl, (by have := zt_1; omega), (by have := zt_1; omega), hJ0, trivial⟩
        · skip
          refine w_ieq_t dX9_snores_16 (t := 23) rfl (by omega) ?_
          refine w_ic dX9_snores_23 zi_0 ?_
          refine w_en dX9_snores_24 rfl ?_
          show ZW _ _ _ _ _ _ _ (26, [some (.ref 386), some (.int a0), none], [.int 0], M0)
          refine w_ieq_t dX9_beside_26 (t := 33) rfl (by have := zt_0; omega) ?_
          exact ih33 M0 a0 none hJ0 (by omega) (by omega) (by omega)
  · skip
    refine w_ile_t dX9_beside_1 (t := 33) rfl (by omega) ?_
    exact ih33 M0 a0 none hJ0 (by omega) (by omega) (by omega)
set_option maxRecDepth 100000 in
theorem k_2366 {X : List Int32} {d N : Nat} {M0 : zM} (a0 : Int32) (ha00 : (0 : Int) ≤ a0.toInt) (ha01 : a0.toInt ≤ 11) (a1 : Int32) (ha10 : (1 : Int) ≤ a1.toInt) (ha11 : a1.toInt ≤ 2147483647) (hN : N ≤ 600) (hB0 : zB N M0) : ZV X (d + 3) 2366 [.ref 386, .int a0, .int a1] M0 (zRV N [(417, 418, 1000)] M0 (fun _ => True)) := by
  have hJ0 : zJ N [(417, 418, 1000)] M0 M0 := zJ_refl hB0
  refine ZV.of (ini := false) rfl (Nat.le_of_ble_eq_true rfl) (by decide +kernel) ?_
  have main : ∀ n : Nat,
      (∀ (M : zM) (v86_1 : Int32) (u86_2 : Int32) (v86_3 : Int32) (s86_2 : Int32), zJ N [(417, 418, 1000)] M0 M → ((0 : Int) ≤ v86_1.toInt) → (v86_1.toInt ≤ 11) → ((0 : Int) ≤ v86_3.toInt) → (v86_3.toInt ≤ 11) → ((-2147483648 : Int) ≤ s86_2.toInt) → (s86_2.toInt ≤ 2147483647) → 1 < (n : Int) → ZW X (d + 2) 9 false none cX9_meets (zRV N [(417, 418, 1000)] M0 (fun _ => True)) (86, [some (.ref 386), some (.int v86_1), some (.int u86_2), some (.int v86_3)], [.int s86_2, .int 5, .ref 417], M)) := by
    intro n
    induction n with
    | zero =>
      exact (fun M v86_1 u86_2 v86_3 s86_2 hJ v86_10 v86_11 v86_30 v86_31 s86_20 s86_21 hn => absurd hn (by omega))
    | succ n ih =>
      have ih86 := ih
      · intro M v86_1 u86_2 v86_3 s86_2 hJ v86_10 v86_11 v86_30 v86_31 s86_20 s86_21 hn
        refine w_isi dX9_meets_86 hJ zs_417 (by have := zt_5; omega) (by have := zt_5; omega) zu_417 (zbot _) (ztop _) (zIR_a (by omega) (by omega)) ?_
        intro M1 hJ2 f3 hn4
        refine w_lo dX9_meets_87 rfl rfl rfl rfl ?_
        refine w_gf dX9_meets_88 rfl hJ2.1.1 zs_386 (zr_386_48 hJ2.1) ?_
        refine w_bi dX9_meets_91 (c := 6) (by decide) ?_
        refine w_lo dX9_meets_93 rfl rfl rfl rfl ?_
        refine w_lo dX9_meets_94 rfl rfl rfl rfl ?_
        refine w_iv dX9_meets_95 rfl rfl (As := [.int v86_1]) rfl rfl hJ2.1.1 zs_386 (Nat.le_of_ble_eq_true rfl) ?_
        refine ZV.imp (k_2367 v86_1 (by omega) (by omega) hN hJ2.1) ?_
        rintro _ ⟨x8, M5, rfl, h9, h10, hJ6, hq7⟩
        have hJ11 := zJ_trans hJ2 hJ6 zSub_nil
        show ZW _ _ _ _ _ _ _ (98, [some (.ref 386), some (.int v86_1), some (.int u86_2), some (.int v86_3)], [.int x8, .int 6, .ref 417], M5)
        refine w_isi dX9_meets_98 hJ11 zs_417 (by have := zt_6; omega) (by have := zt_6; omega) zu_417 (zbot _) (ztop _) (zIR_a (by omega) (by omega)) ?_
        intro M12 hJ13 f14 hn15
        refine w_lo dX9_meets_99 rfl rfl rfl rfl ?_
        refine w_gf dX9_meets_100 rfl hJ13.1.1 zs_386 (zr_386_48 hJ13.1) ?_
        refine w_bi dX9_meets_103 (c := 7) (by decide) ?_
        refine w_lo dX9_meets_105 rfl rfl rfl rfl ?_
        refine w_gfi dX9_meets_106 rfl hJ13.1 zs_386 (Nat.le_of_ble_eq_true rfl) zo_386_71 ?_
        intro x16 f17 h18 h19
        rcases Int.decEq x16.toInt (0 : Int) with h20 | h20
        · skip
          refine w_ieq_f dX9_meets_109 (t := 116) rfl (by omega) ?_
          refine w_ic dX9_meets_112 zi_0 ?_
          refine w_gt dX9_meets_113 (t := 130) rfl ?_
          refine w_isi dX9_meets_130 hJ13 zs_417 (by have := zt_7; omega) (by have := zt_7; omega) zu_417 (zbot _) (ztop _) (zIR_a (by omega) (by omega)) ?_
          intro M21 hJ22 f23 hn24
          refine w_en dX9_meets_131 rfl ?_
          exact ⟨_, rfl, hJ22, trivial⟩
        · skip
          refine w_ieq_t dX9_meets_109 (t := 116) rfl (by omega) ?_
          refine w_lo dX9_meets_116 rfl rfl rfl rfl ?_
          refine w_gf dX9_meets_117 rfl hJ13.1.1 zs_386 (zr_386_57 hJ13.1) ?_
          refine w_bi dX9_meets_120 (c := 12) (by decide) ?_
          refine w_lo dX9_meets_122 rfl rfl rfl rfl ?_
          refine w_gfi dX9_meets_123 rfl hJ13.1 zs_386 (Nat.le_of_ble_eq_true rfl) zo_386_72 ?_
          intro x25 f26 h27 h28
          refine w_mulc dX9_meets_126 zt_12 (by have := zt_12; omega) ?_
          intro x29 h30
          have := zt_12
          refine w_lo dX9_meets_127 rfl rfl rfl rfl ?_
          refine w_add dX9_meets_128 (by omega) ?_
          intro x31 h32
          refine w_iai dX9_meets_129 hJ13.1 zs_426 (by omega) (by omega) zu_426 ?_
          intro x36 f33 h34 h35
          refine w_isi dX9_meets_130 hJ13 zs_417 (by have := zt_7; omega) (by have := zt_7; omega) zu_417 (zbot _) (ztop _) (zIR_a (by omega) (by omega)) ?_
          intro M37 hJ38 f39 hn40
          refine w_en dX9_meets_131 rfl ?_
          exact ⟨_, rfl, hJ38, trivial⟩
  have ih86 := main 6
  show ZW _ _ _ _ _ _ _ (0, [some (.ref 386), some (.int a0), some (.int a1), none], [], M0)
  refine w_lo dX9_meets_0 rfl rfl rfl rfl ?_
  refine w_gf dX9_meets_1 rfl hJ0.1.1 zs_386 (zr_386_69 hJ0.1) ?_
  refine w_lo dX9_meets_4 rfl rfl rfl rfl ?_
  refine w_iai dX9_meets_5 hJ0.1 zs_434 (by omega) (by omega) zu_434 ?_
  intro x44 f41 h42 h43
  refine w_lo (ml' := [some (.ref 386), some (.int a0), some (.int a1), some (.int x44)]) dX9_meets_6 rfl rfl rfl rfl ?_
  refine w_lo dX9_meets_7 rfl rfl rfl rfl ?_
  refine w_gf dX9_meets_8 rfl hJ0.1.1 zs_386 (zr_386_48 hJ0.1) ?_
  refine w_ic dX9_meets_11 zi_1 ?_
  refine w_lo dX9_meets_12 rfl rfl rfl rfl ?_
  refine w_isi dX9_meets_13 hJ0 zs_417 (by have := zt_1; omega) (by have := zt_1; omega) zu_417 (zbot _) (ztop _) (zIR_a (by omega) (by omega)) ?_
  intro M45 hJ46 f47 hn48
  refine w_lo dX9_meets_14 rfl rfl rfl rfl ?_
  refine w_gf dX9_meets_15 rfl hJ46.1.1 zs_386 (zr_386_48 hJ46.1) ?_
  refine w_ic dX9_meets_18 zi_2 ?_
  refine w_lo dX9_meets_19 rfl rfl rfl rfl ?_
  refine w_gf dX9_meets_20 rfl hJ46.1.1 zs_386 (zr_386_15 hJ46.1) ?_
  refine w_bi dX9_meets_23 (c := 12) (by decide) ?_
  refine w_lo dX9_meets_25 rfl rfl rfl rfl ?_
  refine w_gfi dX9_meets_26 rfl hJ46.1 zs_386 (Nat.le_of_ble_eq_true rfl) zo_386_12 ?_
  intro x49 f50 h51 h52
  refine w_mulc dX9_meets_29 zt_12 (by have := zt_12; omega) ?_
  intro x53 h54
  have := zt_12
  refine w_lo dX9_meets_30 rfl rfl rfl rfl ?_
  refine w_add dX9_meets_31 (by omega) ?_
  intro x55 h56
  refine w_iai dX9_meets_32 hJ46.1 zs_390 (by omega) (by omega) zu_390 ?_
  intro x60 f57 h58 h59
  refine w_isi dX9_meets_33 hJ46 zs_417 (by have := zt_2; omega) (by have := zt_2; omega) zu_417 (zbot _) (ztop _) (zIR_a (by omega) (by omega)) ?_
  intro M61 hJ62 f63 hn64
  refine w_lo dX9_meets_34 rfl rfl rfl rfl ?_
  refine w_gf dX9_meets_35 rfl hJ62.1.1 zs_386 (zr_386_48 hJ62.1) ?_
  refine w_ic dX9_meets_38 zi_3 ?_
  refine w_lo dX9_meets_39 rfl rfl rfl rfl ?_
  refine w_gf dX9_meets_40 rfl hJ62.1.1 zs_386 (zr_386_16 hJ62.1) ?_
  refine w_bi dX9_meets_43 (c := 12) (by decide) ?_
  refine w_lo dX9_meets_45 rfl rfl rfl rfl ?_
  have f65 := (hn64 (386) 12 (Or.inl (by omega))).trans (f50)
  refine w_gf dX9_meets_46 rfl hJ62.1.1 zs_386 f65 ?_
  refine w_mulc dX9_meets_49 zt_12 (by have := zt_12; omega) ?_
  intro x66 h67
  have := zt_12
  refine w_lo dX9_meets_50 rfl rfl rfl rfl ?_
  refine w_add dX9_meets_51 (by omega) ?_
  intro x68 h69
  refine w_iai dX9_meets_52 hJ62.1 zs_391 (by omega) (by omega) zu_391 ?_
  intro x73 f70 h71 h72
  refine w_isi dX9_meets_53 hJ62 zs_417 (by have := zt_3; omega) (by have := zt_3; omega) zu_417 (zbot _) (ztop _) (zIR_a (by omega) (by omega)) ?_
  intro M74 hJ75 f76 hn77
  refine w_lo dX9_meets_54 rfl rfl rfl rfl ?_
  refine w_gf dX9_meets_55 rfl hJ75.1.1 zs_386 (zr_386_48 hJ75.1) ?_
  refine w_ic dX9_meets_58 zi_4 ?_
  refine w_lo dX9_meets_59 rfl rfl rfl rfl ?_
  refine w_isi dX9_meets_60 hJ75 zs_417 (by have := zt_4; omega) (by have := zt_4; omega) zu_417 (zbot _) (ztop _) (zIR_a (by omega) (by omega)) ?_
  intro M78 hJ79 f80 hn81
  refine w_lo dX9_meets_61 rfl rfl rfl rfl ?_
  refine w_gf dX9_meets_62 rfl hJ79.1.1 zs_386 (zr_386_48 hJ79.1) ?_
  refine w_ic dX9_meets_65 zi_5 ?_
  refine w_lo dX9_meets_66 rfl rfl rfl rfl ?_
  refine w_gfi dX9_meets_67 rfl hJ79.1 zs_386 (Nat.le_of_ble_eq_true rfl) zo_386_71 ?_
  intro x82 f83 h84 h85
  rcases Int.decEq x82.toInt (0 : Int) with h86 | h86
  · skip
    refine w_ieq_f dX9_meets_70 (t := 77) rfl (by omega) ?_
    refine w_ic dX9_meets_73 zi_0 ?_
    refine w_gt dX9_meets_74 (t := 86) rfl ?_
    exact ih86 M78 a0 a1 x44 0 hJ79 (by omega) (by omega) (by omega) (by omega) (zbot _) (ztop _) (by have := zt_5; have := zt_0; omega)
  · skip
    refine w_ieq_t dX9_meets_70 (t := 77) rfl (by omega) ?_
    refine w_lo dX9_meets_77 rfl rfl rfl rfl ?_
    refine w_gf dX9_meets_78 rfl hJ79.1.1 zs_386 (zr_386_49 hJ79.1) ?_
    refine w_lo dX9_meets_81 rfl rfl rfl rfl ?_
    refine w_gfi dX9_meets_82 rfl hJ79.1 zs_386 (Nat.le_of_ble_eq_true rfl) zo_386_72 ?_
    intro x87 f88 h89 h90
    refine w_iai dX9_meets_85 hJ79.1 zs_418 (by omega) (by omega) zu_418 ?_
    intro x94 f91 h92 h93
    exact ih86 M78 a0 a1 x44 x94 hJ79 (by omega) (by omega) (by omega) (by omega) (zbot _) (ztop _) (by have := zt_5; omega)
set_option maxRecDepth 100000 in
theorem k_2373 {X : List Int32} {d N : Nat} {M0 : zM} (a0 : Int64) (hN : N ≤ 600) (hB0 : zB N M0) : ZV X (d + 1) 2373 [.long a0] M0 (zRG N [] M0 (fun _ _ => True)) := by
  have hJ0 : zJ N [] M0 M0 := zJ_refl hB0
  refine ZV.of (ini := false) rfl (Nat.le_of_ble_eq_true rfl) (by decide +kernel) ?_
  show ZW _ _ _ _ _ _ _ (0, [some (.long a0), none], [], M0)
  refine w_lo dX9_bounded_0 rfl rfl rfl rfl ?_
  refine w_me (st' := [.long (1000000 : Int64), .long a0]) dX9_bounded_1 rfl rfl rfl rfl rfl ?_
  refine w_lcm dX9_bounded_4 ?_
  intro x1 h2
  have := ztl_1000000
  rcases zcut (0 : Int) x1.toInt with h3 | h3
  · skip
    refine w_ile_f dX9_bounded_5 (t := 14) rfl (by omega) ?_
    refine w_me (st' := [.long (1000000 : Int64)]) dX9_bounded_8 rfl rfl rfl rfl rfl ?_
    refine w_gt dX9_bounded_11 (t := 29) rfl ?_
    refine w_en dX9_bounded_29 rfl ?_
    exact ⟨_, _, rfl, hJ0, trivial⟩
  · skip
    refine w_ile_t dX9_bounded_5 (t := 14) rfl (by omega) ?_
    refine w_lo dX9_bounded_14 rfl rfl rfl rfl ?_
    refine w_me (st' := [.long (-1000000 : Int64), .long a0]) dX9_bounded_15 rfl rfl rfl rfl rfl ?_
    refine w_lcm dX9_bounded_18 ?_
    intro x4 h5
    have := ztl_m1000000
    rcases zcut x4.toInt (0 : Int) with h6 | h6
    · skip
      refine w_ige_f dX9_bounded_19 (t := 28) rfl (by omega) ?_
      refine w_me (st' := [.long (-1000000 : Int64)]) dX9_bounded_22 rfl rfl rfl rfl rfl ?_
      refine w_gt dX9_bounded_25 (t := 29) rfl ?_
      refine w_en dX9_bounded_29 rfl ?_
      exact ⟨_, _, rfl, hJ0, trivial⟩
    · skip
      refine w_ige_t dX9_bounded_19 (t := 28) rfl (by omega) ?_
      refine w_lo dX9_bounded_28 rfl rfl rfl rfl ?_
      refine w_en dX9_bounded_29 rfl ?_
      exact ⟨_, _, rfl, hJ0, trivial⟩
set_option maxRecDepth 100000 in
theorem k_2374 {X : List Int32} {d N : Nat} {M0 : zM} (a0 : Int64) (a1 : Int64) (hN : N ≤ 600) (hB0 : zB N M0) : ZV X (d + 1) 2374 [.long a0, .long a1] M0 (zRG N [] M0 (fun _ _ => True)) := by
  have hJ0 : zJ N [] M0 M0 := zJ_refl hB0
  refine ZV.of (ini := false) rfl (Nat.le_of_ble_eq_true rfl) (by decide +kernel) ?_
  show ZW _ _ _ _ _ _ _ (0, [some (.long a0), none, some (.long a1), none, none, none], [], M0)
  refine w_lo dX9_over_0 rfl rfl rfl rfl ?_
  refine w_lc dX9_over_1 (c := (0 : Int64)) (by decide) ?_
  refine w_lcm dX9_over_2 ?_
  intro x1 h2
  have := ztl_0
  rcases Int.decEq x1.toInt (0 : Int) with h3 | h3
  · skip
    refine w_ine_t dX9_over_3 (t := 8) rfl (by omega) ?_
    refine w_lo dX9_over_8 rfl rfl rfl rfl ?_
    refine w_lo dX9_over_9 rfl rfl rfl rfl ?_
    refine w_ldivT dX9_over_10 (by omega) ?_
    intro y4
    refine w_lo (ml' := [some (.long a0), none, some (.long a1), none, some (.long y4), none]) dX9_over_11 rfl rfl rfl rfl ?_
    refine w_lo dX9_over_13 rfl rfl rfl rfl ?_
    refine w_lo dX9_over_14 rfl rfl rfl rfl ?_
    refine w_lremT dX9_over_15 (by omega) ?_
    intro y5
    refine w_lc dX9_over_16 (c := (0 : Int64)) (by decide) ?_
    refine w_lcm dX9_over_17 ?_
    intro x6 h7
    have := ztl_0
    rcases Int.decEq x6.toInt (0 : Int) with h8 | h8
    · skip
      refine w_ieq_f dX9_over_18 (t := 53) rfl (by omega) ?_
      refine w_lo dX9_over_21 rfl rfl rfl rfl ?_
      refine w_lc dX9_over_22 (c := (0 : Int64)) (by decide) ?_
      refine w_lcm dX9_over_23 ?_
      intro x9 h10
      have := ztl_0
      rcases zcut x9.toInt (0 : Int) with h11 | h11
      · skip
        refine w_ige_f dX9_over_24 (t := 31) rfl (by omega) ?_
        refine w_ic dX9_over_27 zi_1 ?_
        refine w_gt dX9_over_28 (t := 32) rfl ?_
        refine w_lo dX9_over_32 rfl rfl rfl rfl ?_
        refine w_lc dX9_over_33 (c := (0 : Int64)) (by decide) ?_
        refine w_lcm dX9_over_34 ?_
        intro x12 h13
        have := ztl_0
        rcases zcut x12.toInt (0 : Int) with h14 | h14
        · skip
          refine w_ige_f dX9_over_35 (t := 42) rfl (by omega) ?_
          refine w_ic dX9_over_38 zi_1 ?_
          refine w_gt dX9_over_39 (t := 43) rfl ?_
          refine w_ceq_t dX9_over_43 (t := 53) rfl (by have := zt_1; have := zt_1; omega) ?_
          refine w_lo dX9_over_53 rfl rfl rfl rfl ?_
          refine w_en dX9_over_55 rfl ?_
          exact ⟨_, _, rfl, hJ0, trivial⟩
        · skip
          refine w_ige_t dX9_over_35 (t := 42) rfl (by omega) ?_
          refine w_ic dX9_over_42 zi_0 ?_
          refine w_ceq_f dX9_over_43 (t := 53) rfl (by have := zt_1; have := zt_0; omega) ?_
          refine w_lo dX9_over_46 rfl rfl rfl rfl ?_
          refine w_lc dX9_over_48 (c := (1 : Int64)) (by decide) ?_
          refine w_puL dX9_over_49 rfl rfl ?_
          intro y15
          refine w_gt dX9_over_50 (t := 55) rfl ?_
          refine w_en dX9_over_55 rfl ?_
          exact ⟨_, _, rfl, hJ0, trivial⟩
      · skip
        refine w_ige_t dX9_over_24 (t := 31) rfl (by omega) ?_
        refine w_ic dX9_over_31 zi_0 ?_
        refine w_lo dX9_over_32 rfl rfl rfl rfl ?_
        refine w_lc dX9_over_33 (c := (0 : Int64)) (by decide) ?_
        refine w_lcm dX9_over_34 ?_
        intro x16 h17
        have := ztl_0
        rcases zcut x16.toInt (0 : Int) with h18 | h18
        · skip
          refine w_ige_f dX9_over_35 (t := 42) rfl (by omega) ?_
          refine w_ic dX9_over_38 zi_1 ?_
          refine w_gt dX9_over_39 (t := 43) rfl ?_
          refine w_ceq_f dX9_over_43 (t := 53) rfl (by have := zt_0; have := zt_1; omega) ?_
          refine w_lo dX9_over_46 rfl rfl rfl rfl ?_
          refine w_lc dX9_over_48 (c := (1 : Int64)) (by decide) ?_
          refine w_puL dX9_over_49 rfl rfl ?_
          intro y19
          refine w_gt dX9_over_50 (t := 55) rfl ?_
          refine w_en dX9_over_55 rfl ?_
          exact ⟨_, _, rfl, hJ0, trivial⟩
        · skip
          refine w_ige_t dX9_over_35 (t := 42) rfl (by omega) ?_
          refine w_ic dX9_over_42 zi_0 ?_
          refine w_ceq_t dX9_over_43 (t := 53) rfl (by have := zt_0; have := zt_0; omega) ?_
          refine w_lo dX9_over_53 rfl rfl rfl rfl ?_
          refine w_en dX9_over_55 rfl ?_
          exact ⟨_, _, rfl, hJ0, trivial⟩
    · skip
      refine w_ieq_t dX9_over_18 (t := 53) rfl (by omega) ?_
      refine w_lo dX9_over_53 rfl rfl rfl rfl ?_
      refine w_en dX9_over_55 rfl ?_
      exact ⟨_, _, rfl, hJ0, trivial⟩
  · skip
    refine w_ine_f dX9_over_3 (t := 8) rfl (by omega) ?_
    refine w_lc dX9_over_6 (c := (0 : Int64)) (by decide) ?_
    refine w_en dX9_over_7 rfl ?_
    exact ⟨_, _, rfl, hJ0, trivial⟩
set_option maxRecDepth 100000 in
theorem k_2372 {X : List Int32} {d N : Nat} {M0 : zM} (a0 : Int32) (ha00 : (10 : Int) ≤ a0.toInt) (ha01 : a0.toInt ≤ 21) (a1 : Int64) (a2 : Int64) (hN : N ≤ 600) (hB0 : zB N M0) : ZV X (d + 2) 2372 [.int a0, .long a1, .long a2] M0 (zRG N [] M0 (fun _ _ => True)) := by
  have hJ0 : zJ N [] M0 M0 := zJ_refl hB0
  refine ZV.of (ini := false) rfl (Nat.le_of_ble_eq_true rfl) (by decide +kernel) ?_
  show ZW _ _ _ _ _ _ _ (0, [some (.int a0), some (.long a1), none, some (.long a2), none], [], M0)
  refine w_lo dX9_made_0 rfl rfl rfl rfl ?_
  rcases Int.decEq a0.toInt (10 : Int) with h1 | h1
  rotate_left
  · skip
    refine w_ts dX9_made_1 (t := 60) (j := 10) h1 (by decide) ?_
    refine w_lo dX9_made_60 rfl rfl rfl rfl ?_
    refine w_lo dX9_made_61 rfl rfl rfl rfl ?_
    refine w_puL dX9_made_62 rfl rfl ?_
    intro y2
    refine w_ss dX9_made_63 rfl rfl (As := [.long y2]) rfl rfl (Nat.le_of_ble_eq_true rfl) ?_
    refine ZV.imp (k_2373 hN hJ0.1) ?_
    rintro _ ⟨y6, M3, rfl, hJ4, hq5⟩
    have hJ7 := zJ_trans hJ0 hJ4 zSub_nil
    show ZW _ _ _ _ _ _ _ (66, [some (.int a0), some (.long a1), none, some (.long a2), none], [.long y6], M3)
    refine w_en dX9_made_66 rfl ?_
    exact ⟨_, _, rfl, hJ7, trivial⟩
  rcases Int.decEq a0.toInt (11 : Int) with h8 | h8
  rotate_left
  · skip
    refine w_ts dX9_made_1 (t := 67) (j := 11) h8 (by decide) ?_
    refine w_lo dX9_made_67 rfl rfl rfl rfl ?_
    refine w_lo dX9_made_68 rfl rfl rfl rfl ?_
    refine w_puL dX9_made_69 rfl rfl ?_
    intro y9
    refine w_ss dX9_made_70 rfl rfl (As := [.long y9]) rfl rfl (Nat.le_of_ble_eq_true rfl) ?_
    refine ZV.imp (k_2373 hN hJ0.1) ?_
    rintro _ ⟨y13, M10, rfl, hJ11, hq12⟩
    have hJ14 := zJ_trans hJ0 hJ11 zSub_nil
    show ZW _ _ _ _ _ _ _ (73, [some (.int a0), some (.long a1), none, some (.long a2), none], [.long y13], M10)
    refine w_en dX9_made_73 rfl ?_
    exact ⟨_, _, rfl, hJ14, trivial⟩
  rcases Int.decEq a0.toInt (12 : Int) with h15 | h15
  rotate_left
  · skip
    refine w_ts dX9_made_1 (t := 74) (j := 12) h15 (by decide) ?_
    refine w_lo dX9_made_74 rfl rfl rfl rfl ?_
    refine w_lo dX9_made_75 rfl rfl rfl rfl ?_
    refine w_puL dX9_made_76 rfl rfl ?_
    intro y16
    refine w_ss dX9_made_77 rfl rfl (As := [.long y16]) rfl rfl (Nat.le_of_ble_eq_true rfl) ?_
    refine ZV.imp (k_2373 hN hJ0.1) ?_
    rintro _ ⟨y20, M17, rfl, hJ18, hq19⟩
    have hJ21 := zJ_trans hJ0 hJ18 zSub_nil
    show ZW _ _ _ _ _ _ _ (80, [some (.int a0), some (.long a1), none, some (.long a2), none], [.long y20], M17)
    refine w_en dX9_made_80 rfl ?_
    exact ⟨_, _, rfl, hJ21, trivial⟩
  rcases Int.decEq a0.toInt (13 : Int) with h22 | h22
  rotate_left
  · skip
    refine w_ts dX9_made_1 (t := 81) (j := 13) h22 (by decide) ?_
    refine w_lo dX9_made_81 rfl rfl rfl rfl ?_
    refine w_lo dX9_made_82 rfl rfl rfl rfl ?_
    refine w_ss dX9_made_83 rfl rfl (As := [.long a1, .long a2]) rfl rfl (Nat.le_of_ble_eq_true rfl) ?_
    refine ZV.imp (k_2374 hN hJ0.1) ?_
    rintro _ ⟨y26, M23, rfl, hJ24, hq25⟩
    have hJ27 := zJ_trans hJ0 hJ24 zSub_nil
    show ZW _ _ _ _ _ _ _ (86, [some (.int a0), some (.long a1), none, some (.long a2), none], [.long y26], M23)
    refine w_en dX9_made_86 rfl ?_
    exact ⟨_, _, rfl, hJ27, trivial⟩
  rcases Int.decEq a0.toInt (14 : Int) with h28 | h28
  rotate_left
  · skip
    refine w_ts dX9_made_1 (t := 87) (j := 14) h28 (by decide) ?_
    refine w_lo dX9_made_87 rfl rfl rfl rfl ?_
    refine w_lc dX9_made_88 (c := (0 : Int64)) (by decide) ?_
    refine w_lcm dX9_made_89 ?_
    intro x29 h30
    have := ztl_0
    rcases Int.decEq x29.toInt (0 : Int) with h31 | h31
    · skip
      refine w_ine_t dX9_made_90 (t := 97) rfl (by omega) ?_
      refine w_lo dX9_made_97 rfl rfl rfl rfl ?_
      refine w_lo dX9_made_98 rfl rfl rfl rfl ?_
      refine w_lo dX9_made_99 rfl rfl rfl rfl ?_
      refine w_lo dX9_made_100 rfl rfl rfl rfl ?_
      refine w_ss dX9_made_101 rfl rfl (As := [.long a1, .long a2]) rfl rfl (Nat.le_of_ble_eq_true rfl) ?_
      refine ZV.imp (k_2374 hN hJ0.1) ?_
      rintro _ ⟨y35, M32, rfl, hJ33, hq34⟩
      have hJ36 := zJ_trans hJ0 hJ33 zSub_nil
      show ZW _ _ _ _ _ _ _ (104, [some (.int a0), some (.long a1), none, some (.long a2), none], [.long y35, .long a2, .long a1], M32)
      refine w_puL dX9_made_104 rfl rfl ?_
      intro y37
      refine w_puL dX9_made_105 rfl rfl ?_
      intro y38
      refine w_en dX9_made_106 rfl ?_
      exact ⟨_, _, rfl, hJ36, trivial⟩
    · skip
      refine w_ine_f dX9_made_90 (t := 97) rfl (by omega) ?_
      refine w_lc dX9_made_93 (c := (0 : Int64)) (by decide) ?_
      refine w_gt dX9_made_94 (t := 106) rfl ?_
      refine w_en dX9_made_106 rfl ?_
      exact ⟨_, _, rfl, hJ0, trivial⟩
  rcases Int.decEq a0.toInt (15 : Int) with h39 | h39
  rotate_left
  · skip
    refine w_ts dX9_made_1 (t := 107) (j := 15) h39 (by decide) ?_
    refine w_lo dX9_made_107 rfl rfl rfl rfl ?_
    refine w_lo dX9_made_108 rfl rfl rfl rfl ?_
    refine w_lcm dX9_made_109 ?_
    intro x40 h41
    skip
    rcases zcut x40.toInt (0 : Int) with h42 | h42
    · skip
      refine w_ige_f dX9_made_110 (t := 117) rfl (by omega) ?_
      refine w_lo dX9_made_113 rfl rfl rfl rfl ?_
      refine w_gt dX9_made_114 (t := 118) rfl ?_
      refine w_en dX9_made_118 rfl ?_
      exact ⟨_, _, rfl, hJ0, trivial⟩
    · skip
      refine w_ige_t dX9_made_110 (t := 117) rfl (by omega) ?_
      refine w_lo dX9_made_117 rfl rfl rfl rfl ?_
      refine w_en dX9_made_118 rfl ?_
      exact ⟨_, _, rfl, hJ0, trivial⟩
  rcases Int.decEq a0.toInt (16 : Int) with h43 | h43
  rotate_left
  · skip
    refine w_ts dX9_made_1 (t := 119) (j := 16) h43 (by decide) ?_
    refine w_lo dX9_made_119 rfl rfl rfl rfl ?_
    refine w_lo dX9_made_120 rfl rfl rfl rfl ?_
    refine w_lcm dX9_made_121 ?_
    intro x44 h45
    skip
    rcases zcut (0 : Int) x44.toInt with h46 | h46
    · skip
      refine w_ile_f dX9_made_122 (t := 129) rfl (by omega) ?_
      refine w_lo dX9_made_125 rfl rfl rfl rfl ?_
      refine w_gt dX9_made_126 (t := 130) rfl ?_
      refine w_en dX9_made_130 rfl ?_
      exact ⟨_, _, rfl, hJ0, trivial⟩
    · skip
      refine w_ile_t dX9_made_122 (t := 129) rfl (by omega) ?_
      refine w_lo dX9_made_129 rfl rfl rfl rfl ?_
      refine w_en dX9_made_130 rfl ?_
      exact ⟨_, _, rfl, hJ0, trivial⟩
  rcases Int.decEq a0.toInt (17 : Int) with h47 | h47
  rotate_left
  · skip
    refine w_ts dX9_made_1 (t := 131) (j := 17) h47 (by decide) ?_
    refine w_lo dX9_made_131 rfl rfl rfl rfl ?_
    refine w_lo dX9_made_132 rfl rfl rfl rfl ?_
    refine w_lcm dX9_made_133 ?_
    intro x48 h49
    skip
    rcases zcut x48.toInt (0 : Int) with h50 | h50
    · skip
      refine w_ige_f dX9_made_134 (t := 141) rfl (by omega) ?_
      refine w_lc dX9_made_137 (c := (1 : Int64)) (by decide) ?_
      refine w_gt dX9_made_138 (t := 142) rfl ?_
      refine w_en dX9_made_142 rfl ?_
      exact ⟨_, _, rfl, hJ0, trivial⟩
    · skip
      refine w_ige_t dX9_made_134 (t := 141) rfl (by omega) ?_
      refine w_lc dX9_made_141 (c := (0 : Int64)) (by decide) ?_
      refine w_en dX9_made_142 rfl ?_
      exact ⟨_, _, rfl, hJ0, trivial⟩
  rcases Int.decEq a0.toInt (18 : Int) with h51 | h51
  rotate_left
  · skip
    refine w_ts dX9_made_1 (t := 143) (j := 18) h51 (by decide) ?_
    refine w_lo dX9_made_143 rfl rfl rfl rfl ?_
    refine w_lo dX9_made_144 rfl rfl rfl rfl ?_
    refine w_lcm dX9_made_145 ?_
    intro x52 h53
    skip
    rcases zcut (0 : Int) x52.toInt with h54 | h54
    · skip
      refine w_ile_f dX9_made_146 (t := 153) rfl (by omega) ?_
      refine w_lc dX9_made_149 (c := (1 : Int64)) (by decide) ?_
      refine w_gt dX9_made_150 (t := 154) rfl ?_
      refine w_en dX9_made_154 rfl ?_
      exact ⟨_, _, rfl, hJ0, trivial⟩
    · skip
      refine w_ile_t dX9_made_146 (t := 153) rfl (by omega) ?_
      refine w_lc dX9_made_153 (c := (0 : Int64)) (by decide) ?_
      refine w_en dX9_made_154 rfl ?_
      exact ⟨_, _, rfl, hJ0, trivial⟩
  rcases Int.decEq a0.toInt (19 : Int) with h55 | h55
  rotate_left
  · skip
    refine w_ts dX9_made_1 (t := 155) (j := 19) h55 (by decide) ?_
    refine w_lo dX9_made_155 rfl rfl rfl rfl ?_
    refine w_lo dX9_made_156 rfl rfl rfl rfl ?_
    refine w_lcm dX9_made_157 ?_
    intro x56 h57
    skip
    rcases Int.decEq x56.toInt (0 : Int) with h58 | h58
    · skip
      refine w_ine_t dX9_made_158 (t := 165) rfl (by omega) ?_
      refine w_lc dX9_made_165 (c := (0 : Int64)) (by decide) ?_
      refine w_en dX9_made_166 rfl ?_
      exact ⟨_, _, rfl, hJ0, trivial⟩
    · skip
      refine w_ine_f dX9_made_158 (t := 165) rfl (by omega) ?_
      refine w_lc dX9_made_161 (c := (1 : Int64)) (by decide) ?_
      refine w_gt dX9_made_162 (t := 166) rfl ?_
      refine w_en dX9_made_166 rfl ?_
      exact ⟨_, _, rfl, hJ0, trivial⟩
  rcases Int.decEq a0.toInt (20 : Int) with h59 | h59
  rotate_left
  · skip
    refine w_ts dX9_made_1 (t := 167) (j := 20) h59 (by decide) ?_
    refine w_lo dX9_made_167 rfl rfl rfl rfl ?_
    refine w_lo dX9_made_168 rfl rfl rfl rfl ?_
    refine w_puL dX9_made_169 rfl rfl ?_
    intro y60
    refine w_en dX9_made_170 rfl ?_
    exact ⟨_, _, rfl, hJ0, trivial⟩
  refine w_td dX9_made_1 (t := 171) (by omega) rfl ?_
  refine w_lo dX9_made_171 rfl rfl rfl rfl ?_
  refine w_lo dX9_made_172 rfl rfl rfl rfl ?_
  refine w_puL dX9_made_173 rfl rfl ?_
  intro y61
  refine w_lc dX9_made_174 (c := (0 : Int64)) (by decide) ?_
  refine w_lcm dX9_made_175 ?_
  intro x62 h63
  have := ztl_0
  rcases zcut (0 : Int) x62.toInt with h64 | h64
  · skip
    refine w_ile_f dX9_made_176 (t := 183) rfl (by omega) ?_
    refine w_lc dX9_made_179 (c := (1 : Int64)) (by decide) ?_
    refine w_gt dX9_made_180 (t := 184) rfl ?_
    refine w_en dX9_made_184 rfl ?_
    exact ⟨_, _, rfl, hJ0, trivial⟩
  · skip
    refine w_ile_t dX9_made_176 (t := 183) rfl (by omega) ?_
    refine w_lc dX9_made_183 (c := (0 : Int64)) (by decide) ?_
    refine w_en dX9_made_184 rfl ?_
    exact ⟨_, _, rfl, hJ0, trivial⟩
set_option maxRecDepth 100000 in
theorem k_2377 {X : List Int32} {d N : Nat} {M0 : zM}  (hN : N ≤ 600) (hB0 : zB N M0) : ZV X (d + 2) 2377 [.ref 386] M0 (zRV N [(418, 433, 1000), (386, 387, 64), (386, 387, 65)] M0 (fun _ => True)) := by
  have hJ0 : zJ N [(418, 433, 1000), (386, 387, 64), (386, 387, 65)] M0 M0 := zJ_refl hB0
  refine ZV.of (ini := false) rfl (Nat.le_of_ble_eq_true rfl) (by decide +kernel) ?_
  show ZW _ _ _ _ _ _ _ (0, [some (.ref 386)], [], M0)
  refine w_lo dX9_keeps_0 rfl rfl rfl rfl ?_
  refine w_gfi dX9_keeps_1 rfl hJ0.1 zs_386 (Nat.le_of_ble_eq_true rfl) zo_386_65 ?_
  intro x1 f2 h3 h4
  refine w_bi dX9_keeps_4 (c := 20) (by decide) ?_
  rcases Int.decEq x1.toInt (20 : Int) with h5 | h5
  · skip
    refine w_cne_t dX9_keeps_6 (t := 32) rfl (by have := zt_20; omega) ?_
    refine w_lo dX9_keeps_32 rfl rfl rfl rfl ?_
    refine w_lo dX9_keeps_33 rfl rfl rfl rfl ?_
    refine w_lo dX9_keeps_34 rfl rfl rfl rfl ?_
    refine w_gf dX9_keeps_35 rfl hJ0.1.1 zs_386 f2 ?_
    refine w_iv dX9_keeps_38 rfl rfl (As := [.int x1]) rfl rfl hJ0.1.1 zs_386 (Nat.le_of_ble_eq_true rfl) ?_
    refine ZV.of (ini := false) rfl (Nat.le_of_ble_eq_true rfl) (by decide +kernel) ?_
    show ZW _ _ _ _ _ _ _ (0, [some (.ref 386), some (.int x1)], [], M0)
    refine w_ic dX9_ring_0 zi_2 ?_
    refine w_lo dX9_ring_1 rfl rfl rfl rfl ?_
    refine w_gfi dX9_ring_2 rfl hJ0.1 zs_386 (Nat.le_of_ble_eq_true rfl) zo_386_64 ?_
    intro x6 f7 h8 h9
    refine w_lo dX9_ring_5 rfl rfl rfl rfl ?_
    refine w_add dX9_ring_6 (by omega) ?_
    intro x10 h11
    refine w_bi dX9_ring_7 (c := 20) (by decide) ?_
    refine w_remP dX9_ring_9 (by omega) (by have := zt_20; omega) ?_
    intro x12 h13 h14 h15
    have := zt_20
    refine w_add dX9_ring_10 (by have := zt_2; omega) ?_
    intro x16 h17
    have := zt_2
    refine w_eni dX9_ring_11 rfl rfl ?_
    show ZW _ _ _ _ _ _ _ (41, [some (.ref 386)], [.int x16, .ref 386], M0)
    refine w_ic dX9_keeps_41 zi_0 ?_
    refine w_iv dX9_keeps_42 rfl rfl (As := [.int x16, .int 0]) rfl rfl hJ0.1.1 zs_386 (Nat.le_of_ble_eq_true rfl) ?_
    refine ZV.imp (k_2347 x16 (by omega) (by omega) 0 (by have := zt_0; omega) (by have := zt_0; omega) hN hJ0.1) ?_
    rintro _ ⟨M18, rfl, hJ19, hq20⟩
    have hJ21 := zJ_trans hJ0 hJ19 (zSub_cons (fun _ _ h h' hk => zIR_a (by omega) (by omega)) zSub_nil)
    show ZW _ _ _ _ _ _ _ (45, [some (.ref 386)], [], M18)
    refine w_lo dX9_keeps_45 rfl rfl rfl rfl ?_
    refine w_pu dX9_keeps_46 rfl rfl ?_
    have f22 := (hJ19.2 (386) 65 (zNI (by omega) zNI_nil)).trans (f2)
    refine w_gf dX9_keeps_47 rfl hJ21.1.1 zs_386 f22 ?_
    refine w_ic dX9_keeps_50 zi_1 ?_
    refine w_add dX9_keeps_51 (by have := zt_1; omega) ?_
    intro x23 h24
    have := zt_1
    refine w_pfi dX9_keeps_52 rfl hJ21 zs_386 (Nat.le_of_ble_eq_true rfl) zo_386_65 (by omega) (by omega) (zIR_s (zIR_s (zIR_k (by omega) (by omega)))) rfl rfl rfl ?_
    intro M25 hJ26 f27 hn28
    refine w_en dX9_keeps_55 rfl ?_
    exact ⟨_, rfl, hJ26, trivial⟩
  · skip
    refine w_cne_f dX9_keeps_6 (t := 32) rfl (by have := zt_20; omega) ?_
    refine w_lo dX9_keeps_9 rfl rfl rfl rfl ?_
    refine w_lo dX9_keeps_10 rfl rfl rfl rfl ?_
    refine w_gfi dX9_keeps_11 rfl hJ0.1 zs_386 (Nat.le_of_ble_eq_true rfl) zo_386_64 ?_
    intro x29 f30 h31 h32
    refine w_ic dX9_keeps_14 zi_1 ?_
    refine w_add dX9_keeps_15 (by have := zt_1; omega) ?_
    intro x33 h34
    have := zt_1
    refine w_bi dX9_keeps_16 (c := 20) (by decide) ?_
    refine w_remP dX9_keeps_18 (by omega) (by have := zt_20; omega) ?_
    intro x35 h36 h37 h38
    have := zt_20
    refine w_pfi dX9_keeps_19 rfl hJ0 zs_386 (Nat.le_of_ble_eq_true rfl) zo_386_64 (by omega) (by omega) (zIR_s (zIR_k (by omega) (by omega))) rfl rfl rfl ?_
    intro M39 hJ40 f41 hn42
    refine w_lo dX9_keeps_22 rfl rfl rfl rfl ?_
    refine w_pu dX9_keeps_23 rfl rfl ?_
    have f43 := (hn42 (386) 65 (Or.inr (by decide))).trans (f2)
    refine w_gf dX9_keeps_24 rfl hJ40.1.1 zs_386 f43 ?_
    refine w_ic dX9_keeps_27 zi_1 ?_
    refine w_sub dX9_keeps_28 (by have := zt_1; omega) ?_
    intro x44 h45
    have := zt_1
    refine w_pfi dX9_keeps_29 rfl hJ40 zs_386 (Nat.le_of_ble_eq_true rfl) zo_386_65 (by omega) (by omega) (zIR_s (zIR_s (zIR_k (by omega) (by omega)))) rfl rfl rfl ?_
    intro M46 hJ47 f48 hn49
    refine w_lo dX9_keeps_32 rfl rfl rfl rfl ?_
    refine w_lo dX9_keeps_33 rfl rfl rfl rfl ?_
    refine w_lo dX9_keeps_34 rfl rfl rfl rfl ?_
    refine w_gf dX9_keeps_35 rfl hJ47.1.1 zs_386 f48 ?_
    refine w_iv dX9_keeps_38 rfl rfl (As := [.int x44]) rfl rfl hJ47.1.1 zs_386 (Nat.le_of_ble_eq_true rfl) ?_
    refine ZV.of (ini := false) rfl (Nat.le_of_ble_eq_true rfl) (by decide +kernel) ?_
    show ZW _ _ _ _ _ _ _ (0, [some (.ref 386), some (.int x44)], [], M46)
    refine w_ic dX9_ring_0 zi_2 ?_
    refine w_lo dX9_ring_1 rfl rfl rfl rfl ?_
    have f50 := (hn49 (386) 64 (Or.inr (by decide))).trans (f41)
    refine w_gf dX9_ring_2 rfl hJ47.1.1 zs_386 f50 ?_
    refine w_lo dX9_ring_5 rfl rfl rfl rfl ?_
    refine w_add dX9_ring_6 (by omega) ?_
    intro x51 h52
    refine w_bi dX9_ring_7 (c := 20) (by decide) ?_
    refine w_remP dX9_ring_9 (by omega) (by have := zt_20; omega) ?_
    intro x53 h54 h55 h56
    have := zt_20
    refine w_add dX9_ring_10 (by have := zt_2; omega) ?_
    intro x57 h58
    have := zt_2
    refine w_eni dX9_ring_11 rfl rfl ?_
    show ZW _ _ _ _ _ _ _ (41, [some (.ref 386)], [.int x57, .ref 386], M46)
    refine w_ic dX9_keeps_41 zi_0 ?_
    refine w_iv dX9_keeps_42 rfl rfl (As := [.int x57, .int 0]) rfl rfl hJ47.1.1 zs_386 (Nat.le_of_ble_eq_true rfl) ?_
    refine ZV.imp (k_2347 x57 (by omega) (by omega) 0 (by have := zt_0; omega) (by have := zt_0; omega) hN hJ47.1) ?_
    rintro _ ⟨M59, rfl, hJ60, hq61⟩
    have hJ62 := zJ_trans hJ47 hJ60 (zSub_cons (fun _ _ h h' hk => zIR_a (by omega) (by omega)) zSub_nil)
    show ZW _ _ _ _ _ _ _ (45, [some (.ref 386)], [], M59)
    refine w_lo dX9_keeps_45 rfl rfl rfl rfl ?_
    refine w_pu dX9_keeps_46 rfl rfl ?_
    have f63 := (hJ60.2 (386) 65 (zNI (by omega) zNI_nil)).trans (f48)
    refine w_gf dX9_keeps_47 rfl hJ62.1.1 zs_386 f63 ?_
    refine w_ic dX9_keeps_50 zi_1 ?_
    refine w_add dX9_keeps_51 (by have := zt_1; omega) ?_
    intro x64 h65
    have := zt_1
    refine w_pfi dX9_keeps_52 rfl hJ62 zs_386 (Nat.le_of_ble_eq_true rfl) zo_386_65 (by omega) (by omega) (zIR_s (zIR_s (zIR_k (by omega) (by omega)))) rfl rfl rfl ?_
    intro M66 hJ67 f68 hn69
    refine w_en dX9_keeps_55 rfl ?_
    exact ⟨_, rfl, hJ67, trivial⟩
set_option maxRecDepth 100000 in
theorem k_2381 {X : List Int32} {d N : Nat} {M0 : zM} (a0 : Int32) (ha00 : (0 : Int) ≤ a0.toInt) (ha01 : a0.toInt ≤ 1) (a1 : Int32) (ha10 : (0 : Int) ≤ a1.toInt) (ha11 : a1.toInt ≤ 11) (a2 : Int32) (a3 : Int32) (a4 : Int32) (ha40 : (0 : Int) ≤ a4.toInt) (ha41 : a4.toInt ≤ 11) (hN : N ≤ 600) (hB0 : zB N M0) : ZV X (d + 1) 2381 [.ref 386, .int a0, .int a1, .int a2, .int a3, .int a4] M0 (zRV N [(431, 433, 1000)] M0 (fun _ => True)) := by
  have hJ0 : zJ N [(431, 433, 1000)] M0 M0 := zJ_refl hB0
  refine ZV.of (ini := false) rfl (Nat.le_of_ble_eq_true rfl) (by decide +kernel) ?_
  have main : ∀ n : Nat,
      (∀ (M : zM) (v15_1 : Int32) (v15_2 : Int32) (v15_3 : Int32) (v15_4 : Int32) (v15_5 : Int32) (v15_6 : Int32), zJ N [(431, 433, 1000)] M0 M → ((0 : Int) ≤ v15_1.toInt) → (v15_1.toInt ≤ 1) → ((0 : Int) ≤ v15_2.toInt) → (v15_2.toInt ≤ 11) → ((-2147483648 : Int) ≤ v15_3.toInt) → (v15_3.toInt ≤ 2147483647) → ((-2147483648 : Int) ≤ v15_4.toInt) → (v15_4.toInt ≤ 2147483647) → ((0 : Int) ≤ v15_5.toInt) → (v15_5.toInt ≤ 11) → ((5 : Int) ≤ v15_6.toInt) → (v15_6.toInt ≤ 1000) → 4 * (1000 - v15_6.toInt) + 2 < (n : Int) → ZW X (d + 0) 9 false none cX9_tells (zRV N [(431, 433, 1000)] M0 (fun _ => True)) (15, [some (.ref 386), some (.int v15_1), some (.int v15_2), some (.int v15_3), some (.int v15_4), some (.int v15_5), some (.int v15_6)], [], M)) ∧
      (∀ (M : zM) (v67_1 : Int32) (v67_2 : Int32) (v67_3 : Int32) (v67_4 : Int32) (v67_5 : Int32) (o67_6 : Option Value), zJ N [(431, 433, 1000)] M0 M → ((0 : Int) ≤ v67_1.toInt) → (v67_1.toInt ≤ 1) → ((0 : Int) ≤ v67_2.toInt) → (v67_2.toInt ≤ 11) → ((-2147483648 : Int) ≤ v67_3.toInt) → (v67_3.toInt ≤ 2147483647) → ((-2147483648 : Int) ≤ v67_4.toInt) → (v67_4.toInt ≤ 2147483647) → ((0 : Int) ≤ v67_5.toInt) → (v67_5.toInt ≤ 11) → 1 < (n : Int) → ZW X (d + 0) 9 false none cX9_tells (zRV N [(431, 433, 1000)] M0 (fun _ => True)) (67, [some (.ref 386), some (.int v67_1), some (.int v67_2), some (.int v67_3), some (.int v67_4), some (.int v67_5), o67_6], [], M)) := by
    intro n
    induction n with
    | zero =>
      exact ⟨(fun M v15_1 v15_2 v15_3 v15_4 v15_5 v15_6 hJ v15_10 v15_11 v15_20 v15_21 v15_30 v15_31 v15_40 v15_41 v15_50 v15_51 v15_60 v15_61 hn => absurd hn (by omega)), (fun M v67_1 v67_2 v67_3 v67_4 v67_5 o67_6 hJ v67_10 v67_11 v67_20 v67_21 v67_30 v67_31 v67_40 v67_41 v67_50 v67_51 hn => absurd hn (by omega))⟩
    | succ n ih =>
      obtain ⟨ih15, ih67⟩ := ih
      refine ⟨?_, ?_⟩
      · intro M v15_1 v15_2 v15_3 v15_4 v15_5 v15_6 hJ v15_10 v15_11 v15_20 v15_21 v15_30 v15_31 v15_40 v15_41 v15_50 v15_51 v15_60 v15_61 hn
        refine w_lo dX9_tells_15 rfl rfl rfl rfl ?_
        refine w_si dX9_tells_17 (c := 1000) (by decide) ?_
        rcases zcut v15_6.toInt (1000 : Int) with h1 | h1
        · skip
          refine w_cge_f dX9_tells_20 (t := 57) rfl (by have := zt_1000; omega) ?_
          refine w_lo dX9_tells_23 rfl rfl rfl rfl ?_
          refine w_gf dX9_tells_24 rfl hJ.1.1 zs_386 (zr_386_63 hJ.1) ?_
          refine w_si dX9_tells_27 (c := 1000) (by decide) ?_
          refine w_lo dX9_tells_30 rfl rfl rfl rfl ?_
          refine w_mulc dX9_tells_31 zt_1000 (by have := zt_1000; omega) ?_
          intro x2 h3
          have := zt_1000
          refine w_lo dX9_tells_32 rfl rfl rfl rfl ?_
          refine w_add dX9_tells_34 (by omega) ?_
          intro x4 h5
          refine w_ic dX9_tells_35 zi_5 ?_
          refine w_sub dX9_tells_36 (by have := zt_5; omega) ?_
          intro x6 h7
          have := zt_5
          refine w_lo dX9_tells_37 rfl rfl rfl rfl ?_
          refine w_gf dX9_tells_38 rfl hJ.1.1 zs_386 (zr_386_63 hJ.1) ?_
          refine w_si dX9_tells_41 (c := 1000) (by decide) ?_
          refine w_lo dX9_tells_44 rfl rfl rfl rfl ?_
          refine w_mulc dX9_tells_45 zt_1000 (by have := zt_1000; omega) ?_
          intro x8 h9
          have := zt_1000
          refine w_lo dX9_tells_46 rfl rfl rfl rfl ?_
          refine w_add dX9_tells_48 (by omega) ?_
          intro x10 h11
          refine w_iai dX9_tells_49 hJ.1 zs_432 (by omega) (by omega) zu_432 ?_
          intro x15 f12 h13 h14
          refine w_isi dX9_tells_50 hJ zs_432 (by omega) (by omega) zu_432 (zbot _) (ztop _) (zIR_a (by omega) (by omega)) ?_
          intro M16 hJ17 f18 hn19
          refine w_inc (kk := 6) dX9_tells_51 rfl (m := 1) (by decide) (by omega) ?_
          intro x20 h21
          refine ⟨_, rfl, ?_⟩
          show ZW _ _ _ _ _ _ _ (54, [some (.ref 386), some (.int v15_1), some (.int v15_2), some (.int v15_3), some (.int v15_4), some (.int v15_5), some (.int x20)], [], M16)
          refine w_gt dX9_tells_54 (t := 15) rfl ?_
          exact ih15 M16 v15_1 v15_2 v15_3 v15_4 v15_5 x20 hJ17 (by omega) (by omega) (by omega) (by omega) (zbot _) (ztop _) (zbot _) (ztop _) (by omega) (by omega) (by omega) (by omega) (by omega)
        · skip
          refine w_cge_t dX9_tells_20 (t := 57) rfl (by have := zt_1000; omega) ?_
          refine w_lo dX9_tells_57 rfl rfl rfl rfl ?_
          refine w_gf dX9_tells_58 rfl hJ.1.1 zs_386 (zr_386_62 hJ.1) ?_
          refine w_lo dX9_tells_61 rfl rfl rfl rfl ?_
          refine w_pu dX9_tells_62 rfl rfl ?_
          refine w_iai dX9_tells_63 hJ.1 zs_431 (by omega) (by omega) zu_431 ?_
          intro x25 f22 h23 h24
          refine w_ic dX9_tells_64 zi_1 ?_
          refine w_sub dX9_tells_65 (by have := zt_1; omega) ?_
          intro x26 h27
          have := zt_1
          refine w_isi dX9_tells_66 hJ zs_431 (by omega) (by omega) zu_431 (by omega) (by omega) (zIR_a (by omega) (by omega)) ?_
          intro M28 hJ29 f30 hn31
          exact ih67 M28 v15_1 v15_2 v15_3 v15_4 v15_5 (some (.int v15_6)) hJ29 (by omega) (by omega) (by omega) (by omega) (zbot _) (ztop _) (zbot _) (ztop _) (by omega) (by omega) (by omega)
      · intro M v67_1 v67_2 v67_3 v67_4 v67_5 o67_6 hJ v67_10 v67_11 v67_20 v67_21 v67_30 v67_31 v67_40 v67_41 v67_50 v67_51 hn
        refine w_si dX9_tells_67 (c := 1000) (by decide) ?_
        refine w_lo dX9_tells_70 rfl rfl rfl rfl ?_
        refine w_mulc dX9_tells_71 zt_1000 (by have := zt_1000; omega) ?_
        intro x32 h33
        have := zt_1000
        refine w_ic dX9_tells_72 zi_5 ?_
        refine w_lo dX9_tells_73 rfl rfl rfl rfl ?_
        refine w_gf dX9_tells_74 rfl hJ.1.1 zs_386 (zr_386_62 hJ.1) ?_
        refine w_lo dX9_tells_77 rfl rfl rfl rfl ?_
        refine w_iai dX9_tells_78 hJ.1 zs_431 (by omega) (by omega) zu_431 ?_
        intro x37 f34 h35 h36
        refine w_mulc dX9_tells_79 zt_5 (by have := zt_5; omega) ?_
        intro x38 h39
        have := zt_5
        refine w_add dX9_tells_80 (by omega) ?_
        intro x40 h41
        refine w_lo (ml' := [some (.ref 386), some (.int v67_1), some (.int v67_2), some (.int v67_3), some (.int v67_4), some (.int v67_5), some (.int x40)]) dX9_tells_81 rfl rfl rfl rfl ?_
        refine w_lo dX9_tells_83 rfl rfl rfl rfl ?_
        refine w_gf dX9_tells_84 rfl hJ.1.1 zs_386 (zr_386_63 hJ.1) ?_
        refine w_lo dX9_tells_87 rfl rfl rfl rfl ?_
        refine w_lo dX9_tells_89 rfl rfl rfl rfl ?_
        refine w_gf dX9_tells_90 rfl hJ.1.1 zs_386 (zr_386_49 hJ.1) ?_
        refine w_lo dX9_tells_93 rfl rfl rfl rfl ?_
        refine w_iai dX9_tells_94 hJ.1 zs_418 (by omega) (by omega) zu_418 ?_
        intro x45 f42 h43 h44
        refine w_isi dX9_tells_95 hJ zs_432 (by omega) (by omega) zu_432 (zbot _) (ztop _) (zIR_a (by omega) (by omega)) ?_
        intro M46 hJ47 f48 hn49
        refine w_lo dX9_tells_96 rfl rfl rfl rfl ?_
        refine w_gf dX9_tells_97 rfl hJ47.1.1 zs_386 (zr_386_63 hJ47.1) ?_
        refine w_lo dX9_tells_100 rfl rfl rfl rfl ?_
        refine w_ic dX9_tells_102 zi_1 ?_
        refine w_add dX9_tells_103 (by have := zt_1; omega) ?_
        intro x50 h51
        have := zt_1
        refine w_lo dX9_tells_104 rfl rfl rfl rfl ?_
        refine w_isi dX9_tells_105 hJ47 zs_432 (by omega) (by omega) zu_432 (zbot _) (ztop _) (zIR_a (by omega) (by omega)) ?_
        intro M52 hJ53 f54 hn55
        refine w_lo dX9_tells_106 rfl rfl rfl rfl ?_
        refine w_gf dX9_tells_107 rfl hJ53.1.1 zs_386 (zr_386_63 hJ53.1) ?_
        refine w_lo dX9_tells_110 rfl rfl rfl rfl ?_
        refine w_ic dX9_tells_112 zi_2 ?_
        refine w_add dX9_tells_113 (by have := zt_2; omega) ?_
        intro x56 h57
        have := zt_2
        refine w_lo dX9_tells_114 rfl rfl rfl rfl ?_
        refine w_isi dX9_tells_115 hJ53 zs_432 (by omega) (by omega) zu_432 (zbot _) (ztop _) (zIR_a (by omega) (by omega)) ?_
        intro M58 hJ59 f60 hn61
        refine w_lo dX9_tells_116 rfl rfl rfl rfl ?_
        refine w_gf dX9_tells_117 rfl hJ59.1.1 zs_386 (zr_386_63 hJ59.1) ?_
        refine w_lo dX9_tells_120 rfl rfl rfl rfl ?_
        refine w_ic dX9_tells_122 zi_3 ?_
        refine w_add dX9_tells_123 (by have := zt_3; omega) ?_
        intro x62 h63
        have := zt_3
        refine w_lo dX9_tells_124 rfl rfl rfl rfl ?_
        refine w_isi dX9_tells_126 hJ59 zs_432 (by omega) (by omega) zu_432 (zbot _) (ztop _) (zIR_a (by omega) (by omega)) ?_
        intro M64 hJ65 f66 hn67
        refine w_lo dX9_tells_127 rfl rfl rfl rfl ?_
        refine w_gf dX9_tells_128 rfl hJ65.1.1 zs_386 (zr_386_63 hJ65.1) ?_
        refine w_lo dX9_tells_131 rfl rfl rfl rfl ?_
        refine w_ic dX9_tells_133 zi_4 ?_
        refine w_add dX9_tells_134 (by have := zt_4; omega) ?_
        intro x68 h69
        have := zt_4
        refine w_lo dX9_tells_135 rfl rfl rfl rfl ?_
        refine w_isi dX9_tells_137 hJ65 zs_432 (by omega) (by omega) zu_432 (zbot _) (ztop _) (zIR_a (by omega) (by omega)) ?_
        intro M70 hJ71 f72 hn73
        refine w_lo dX9_tells_138 rfl rfl rfl rfl ?_
        refine w_gf dX9_tells_139 rfl hJ71.1.1 zs_386 (zr_386_62 hJ71.1) ?_
        refine w_lo dX9_tells_142 rfl rfl rfl rfl ?_
        refine w_pu dX9_tells_143 rfl rfl ?_
        have f77 := (hn73 (431) (v67_1 : Int32).toInt.toNat (Or.inl (by omega))).trans ((hn67 (431) (v67_1 : Int32).toInt.toNat (Or.inl (by omega))).trans ((hn61 (431) (v67_1 : Int32).toInt.toNat (Or.inl (by omega))).trans ((hn55 (431) (v67_1 : Int32).toInt.toNat (Or.inl (by omega))).trans ((hn49 (431) (v67_1 : Int32).toInt.toNat (Or.inl (by omega))).trans (f34)))))
        refine w_ia dX9_tells_144 hJ71.1.1 zs_431 (znat (by omega)) f77 ?_
        refine w_ic dX9_tells_145 zi_1 ?_
        refine w_add dX9_tells_146 (by have := zt_1; omega) ?_
        intro x78 h79
        have := zt_1
        refine w_isi dX9_tells_147 hJ71 zs_431 (by omega) (by omega) zu_431 (by omega) (by omega) (zIR_a (by omega) (by omega)) ?_
        intro M80 hJ81 f82 hn83
        refine w_en dX9_tells_148 rfl ?_
        exact ⟨_, rfl, hJ81, trivial⟩
  obtain ⟨ih15, ih67⟩ := main 3995
  show ZW _ _ _ _ _ _ _ (0, [some (.ref 386), some (.int a0), some (.int a1), some (.int a2), some (.int a3), some (.int a4), none], [], M0)
  refine w_lo dX9_tells_0 rfl rfl rfl rfl ?_
  refine w_gf dX9_tells_1 rfl hJ0.1.1 zs_386 (zr_386_62 hJ0.1) ?_
  refine w_lo dX9_tells_4 rfl rfl rfl rfl ?_
  refine w_iai dX9_tells_5 hJ0.1 zs_431 (by omega) (by omega) zu_431 ?_
  intro x87 f84 h85 h86
  refine w_si dX9_tells_6 (c := 200) (by decide) ?_
  rcases Int.decEq x87.toInt (200 : Int) with h88 | h88
  · skip
    refine w_cne_t dX9_tells_9 (t := 67) rfl (by have := zt_200; omega) ?_
    exact ih67 M0 a0 a1 a2 a3 a4 none hJ0 (by omega) (by omega) (by omega) (by omega) (zbot _) (ztop _) (zbot _) (ztop _) (by omega) (by omega) (by omega)
  · skip
    refine w_cne_f dX9_tells_9 (t := 67) rfl (by have := zt_200; omega) ?_
    refine w_ic dX9_tells_12 zi_5 ?_
    refine w_lo (ml' := [some (.ref 386), some (.int a0), some (.int a1), some (.int a2), some (.int a3), some (.int a4), some (.int 5)]) dX9_tells_13 rfl rfl rfl rfl ?_
    exact ih15 M0 a0 a1 a2 a3 a4 5 hJ0 (by omega) (by omega) (by omega) (by omega) (zbot _) (ztop _) (zbot _) (ztop _) (by omega) (by omega) (by have := zt_5; omega) (by have := zt_5; omega) (by have := zt_5; omega)
set_option maxRecDepth 100000 in
theorem k_2385 {X : List Int32} {d N : Nat} {M0 : zM} (a0 : Int32) (ha00 : (0 : Int) ≤ a0.toInt) (ha01 : a0.toInt ≤ 4095) (hN : N ≤ 600) (hB0 : zB N M0) : ZV X (d + 1) 2385 [.int a0] M0 (zRI N [] M0 (-2147483648) (2147483647) (fun _ _ => True)) := by
  have hJ0 : zJ N [] M0 M0 := zJ_refl hB0
  refine ZV.of (ini := false) rfl (Nat.le_of_ble_eq_true rfl) (by decide +kernel) ?_
  have main : ∀ n : Nat,
      (∀ (M : zM) (u4_0 : Int32) (v4_1 : Int32) (v4_2 : Int32), zJ N [] M0 M → ((-2147483648 : Int) ≤ v4_1.toInt) → (v4_1.toInt ≤ 2147483647) → ((0 : Int) ≤ v4_2.toInt) → (v4_2.toInt ≤ 4095) → 3 * (v4_2.toInt - 0) + 1 < (n : Int) → ZW X (d + 0) 9 false (some .int) cX9_bits (zRI N [] M0 (-2147483648) (2147483647) (fun _ _ => True)) (4, [some (.int u4_0), some (.int v4_1), some (.int v4_2)], [], M)) := by
    intro n
    induction n with
    | zero =>
      exact (fun M u4_0 v4_1 v4_2 hJ v4_10 v4_11 v4_20 v4_21 hn => absurd hn (by omega))
    | succ n ih =>
      have ih4 := ih
      · intro M u4_0 v4_1 v4_2 hJ v4_10 v4_11 v4_20 v4_21 hn
        refine w_lo dX9_bits_4 rfl rfl rfl rfl ?_
        rcases Int.decEq v4_2.toInt (0 : Int) with h1 | h1
        · skip
          refine w_ieq_f dX9_bits_5 (t := 21) rfl (by omega) ?_
          refine w_lo dX9_bits_8 rfl rfl rfl rfl ?_
          refine w_lo dX9_bits_9 rfl rfl rfl rfl ?_
          refine w_ic dX9_bits_10 zi_1 ?_
          refine w_and dX9_bits_11 (m := 1) zt_1 (by omega) ?_
          intro x2 h3 h4
          refine w_puI dX9_bits_12 rfl rfl ?_
          intro x5
          refine w_lo (ml' := [some (.int u4_0), some (.int x5), some (.int v4_2)]) dX9_bits_13 rfl rfl rfl rfl ?_
          refine w_lo dX9_bits_14 rfl rfl rfl rfl ?_
          refine w_ic dX9_bits_15 zi_1 ?_
          refine w_shrP dX9_bits_16 (m := 1) (p := 2) (by decide) (by decide) (by omega) ?_
          intro x6 h7 h8
          refine w_lo (ml' := [some (.int u4_0), some (.int x5), some (.int x6)]) dX9_bits_17 rfl rfl rfl rfl ?_
          refine w_gt dX9_bits_18 (t := 4) rfl ?_
          exact ih4 M u4_0 x5 x6 hJ (zbot _) (ztop _) (by omega) (by omega) (by omega)
        · skip
          refine w_ieq_t dX9_bits_5 (t := 21) rfl (by omega) ?_
          refine w_lo dX9_bits_21 rfl rfl rfl rfl ?_
          refine w_eni dX9_bits_22 rfl rfl ?_
          exact ⟨_, _, rfl, (zbot _), (ztop _), hJ, trivial⟩
  have ih4 := main 12297
  show ZW _ _ _ _ _ _ _ (0, [some (.int a0), none, none], [], M0)
  refine w_ic dX9_bits_0 zi_0 ?_
  refine w_lo (ml' := [some (.int a0), some (.int 0), none]) dX9_bits_1 rfl rfl rfl rfl ?_
  refine w_lo dX9_bits_2 rfl rfl rfl rfl ?_
  refine w_lo (ml' := [some (.int a0), some (.int 0), some (.int a0)]) dX9_bits_3 rfl rfl rfl rfl ?_
  exact ih4 M0 a0 0 a0 hJ0 (zbot _) (ztop _) (by omega) (by omega) (by have := zt_0; omega)
set_option maxRecDepth 100000 in
theorem k_2387 {X : List Int32} {d N : Nat} {M0 : zM} (a0 : Int32) (ha00 : (0 : Int) ≤ a0.toInt) (ha01 : a0.toInt ≤ 1) (a1 : Int32) (ha10 : (0 : Int) ≤ a1.toInt) (ha11 : a1.toInt ≤ 11) (hN : N ≤ 600) (hB0 : zB N M0) : ZV X (d + 1) 2387 [.ref 386, .int a0, .int a1] M0 (zRV N [(420, 424, 1000)] M0 (fun _ => True)) := by
  have hJ0 : zJ N [(420, 424, 1000)] M0 M0 := zJ_refl hB0
  refine ZV.of (ini := false) rfl (Nat.le_of_ble_eq_true rfl) (by decide +kernel) ?_
  show ZW _ _ _ _ _ _ _ (0, [some (.ref 386), some (.int a0), some (.int a1)], [], M0)
  refine w_lo dX9_wakesUp_0 rfl rfl rfl rfl ?_
  refine w_gf dX9_wakesUp_1 rfl hJ0.1.1 zs_386 (zr_386_51 hJ0.1) ?_
  refine w_bi dX9_wakesUp_4 (c := 12) (by decide) ?_
  refine w_lo dX9_wakesUp_6 rfl rfl rfl rfl ?_
  refine w_mulc dX9_wakesUp_7 zt_12 (by have := zt_12; omega) ?_
  intro x1 h2
  have := zt_12
  refine w_lo dX9_wakesUp_8 rfl rfl rfl rfl ?_
  refine w_add dX9_wakesUp_9 (by omega) ?_
  intro x3 h4
  refine w_ic dX9_wakesUp_10 zi_0 ?_
  refine w_isi dX9_wakesUp_11 hJ0 zs_420 (by omega) (by omega) zu_420 (by have := zt_0; omega) (by have := zt_0; omega) (zIR_a (by omega) (by omega)) ?_
  intro M5 hJ6 f7 hn8
  refine w_lo dX9_wakesUp_12 rfl rfl rfl rfl ?_
  refine w_gf dX9_wakesUp_13 rfl hJ6.1.1 zs_386 (zr_386_52 hJ6.1) ?_
  refine w_bi dX9_wakesUp_16 (c := 12) (by decide) ?_
  refine w_lo dX9_wakesUp_18 rfl rfl rfl rfl ?_
  refine w_mulc dX9_wakesUp_19 zt_12 (by have := zt_12; omega) ?_
  intro x9 h10
  have := zt_12
  refine w_lo dX9_wakesUp_20 rfl rfl rfl rfl ?_
  refine w_add dX9_wakesUp_21 (by omega) ?_
  intro x11 h12
  refine w_ic dX9_wakesUp_22 zi_m1 ?_
  refine w_isi dX9_wakesUp_23 hJ6 zs_421 (by omega) (by omega) zu_421 (by have := zt_m1; omega) (by have := zt_m1; omega) (zIR_a (by omega) (by omega)) ?_
  intro M13 hJ14 f15 hn16
  refine w_lo dX9_wakesUp_24 rfl rfl rfl rfl ?_
  refine w_gf dX9_wakesUp_25 rfl hJ14.1.1 zs_386 (zr_386_53 hJ14.1) ?_
  refine w_bi dX9_wakesUp_28 (c := 12) (by decide) ?_
  refine w_lo dX9_wakesUp_30 rfl rfl rfl rfl ?_
  refine w_mulc dX9_wakesUp_31 zt_12 (by have := zt_12; omega) ?_
  intro x17 h18
  have := zt_12
  refine w_lo dX9_wakesUp_32 rfl rfl rfl rfl ?_
  refine w_add dX9_wakesUp_33 (by omega) ?_
  intro x19 h20
  refine w_ic dX9_wakesUp_34 zi_0 ?_
  refine w_isi dX9_wakesUp_35 hJ14 zs_422 (by omega) (by omega) zu_422 (zbot _) (ztop _) (zIR_a (by omega) (by omega)) ?_
  intro M21 hJ22 f23 hn24
  refine w_lo dX9_wakesUp_36 rfl rfl rfl rfl ?_
  refine w_gf dX9_wakesUp_37 rfl hJ22.1.1 zs_386 (zr_386_54 hJ22.1) ?_
  refine w_bi dX9_wakesUp_40 (c := 12) (by decide) ?_
  refine w_lo dX9_wakesUp_42 rfl rfl rfl rfl ?_
  refine w_mulc dX9_wakesUp_43 zt_12 (by have := zt_12; omega) ?_
  intro x25 h26
  have := zt_12
  refine w_lo dX9_wakesUp_44 rfl rfl rfl rfl ?_
  refine w_add dX9_wakesUp_45 (by omega) ?_
  intro x27 h28
  refine w_ic dX9_wakesUp_46 zi_m1 ?_
  refine w_isi dX9_wakesUp_47 hJ22 zs_423 (by omega) (by omega) zu_423 (by have := zt_m1; omega) (by have := zt_m1; omega) (zIR_a (by omega) (by omega)) ?_
  intro M29 hJ30 f31 hn32
  refine w_en dX9_wakesUp_48 rfl ?_
  exact ⟨_, rfl, hJ30, trivial⟩
set_option maxRecDepth 100000 in
theorem k_2388 {X : List Int32} {d N : Nat} {M0 : zM} (a0 : Int32) (ha00 : (1 : Int) ≤ a0.toInt) (ha01 : a0.toInt ≤ 2147483647) (hN : N ≤ 600) (hB0 : zB N M0) : ZV X (d + 1) 2388 [.ref 386, .int a0] M0 (zRI N [(386, 387, 66)] M0 (0) (2147483647) (fun v M' => (v.toInt < a0.toInt) ∧ True)) := by
  have hJ0 : zJ N [(386, 387, 66)] M0 M0 := zJ_refl hB0
  refine ZV.of (ini := false) rfl (Nat.le_of_ble_eq_true rfl) (by decide +kernel) ?_
  show ZW _ _ _ _ _ _ _ (0, [some (.ref 386), some (.int a0)], [], M0)
  refine w_lo dX9_draw_0 rfl rfl rfl rfl ?_
  refine w_me (st' := [.long (1103515245 : Int64), .ref 386]) dX9_draw_1 rfl rfl rfl rfl rfl ?_
  refine w_lo dX9_draw_4 rfl rfl rfl rfl ?_
  refine w_gfl dX9_draw_5 rfl hJ0.1 zs_386 (Nat.le_of_ble_eq_true rfl) zo_386_66 ?_
  intro y4 f1 h2 h3
  refine w_lmulc dX9_draw_8 ztl_1103515245 (by have := ztl_1103515245; omega) ?_
  intro y5 h6
  have := ztl_1103515245
  refine w_me (st' := [.long (12345 : Int64), .long y5, .ref 386]) dX9_draw_9 rfl rfl rfl rfl rfl ?_
  refine w_ladd dX9_draw_12 (by have := ztl_12345; omega) ?_
  intro y7 h8
  have := ztl_12345
  refine w_me (st' := [.long (2147483648 : Int64), .long y7, .ref 386]) dX9_draw_13 rfl rfl rfl rfl rfl ?_
  refine w_lremP dX9_draw_16 (by omega) (by have := ztl_2147483648; omega) ?_
  intro y9 h10 h11 h12
  have := ztl_2147483648
  refine w_pfl dX9_draw_17 rfl hJ0 zs_386 (Nat.le_of_ble_eq_true rfl) zo_386_66 (by omega) (by omega) (zIR_k (by omega) (by omega)) rfl rfl rfl ?_
  intro M13 hJ14 f15 hn16
  refine w_lo dX9_draw_20 rfl rfl rfl rfl ?_
  refine w_gf dX9_draw_21 rfl hJ14.1.1 zs_386 f15 ?_
  refine w_me (st' := [.long (64 : Int64), .long y9]) dX9_draw_24 rfl rfl rfl rfl rfl ?_
  refine w_ldivP dX9_draw_27 (by omega) (by have := ztl_64; omega) ?_
  intro y17 h18 h19 h20
  have := ztl_64
  refine w_lo dX9_draw_28 rfl rfl rfl rfl ?_
  refine w_i2l dX9_draw_29 ?_
  intro y21 h22
  skip
  refine w_lremP dX9_draw_30 (by omega) (by omega) ?_
  intro y23 h24 h25 h26
  skip
  refine w_l2i dX9_draw_31 (by omega) ?_
  intro x27 h28
  skip
  refine w_eni dX9_draw_32 rfl rfl ?_
  exact ⟨_, _, rfl, (by omega), (ztop _), hJ14, ⟨(by omega), trivial⟩⟩
set_option maxRecDepth 100000 in
theorem k_2390 {X : List Int32} {d N : Nat} {M0 : zM}  (hN : N ≤ 600) (hB0 : zB N M0) : ZV X (d + 1) 2390 [.ref 386] M0 (zRI N [] M0 (-2147483648) (2147483647) (fun _ _ => True)) := by
  have hJ0 : zJ N [] M0 M0 := zJ_refl hB0
  refine ZV.of (ini := false) rfl (Nat.le_of_ble_eq_true rfl) (by decide +kernel) ?_
  have main : ∀ n : Nat,
      (∀ (M : zM) (v4_1 : Int32) (v4_2 : Int32), zJ N [] M0 M → ((-2147483648 : Int) ≤ v4_1.toInt) → (v4_1.toInt ≤ 2147483647) → ((0 : Int) ≤ v4_2.toInt) → (v4_2.toInt ≤ 6) → 3 * (6 - v4_2.toInt) + 1 < (n : Int) → ZW X (d + 0) 9 false (some .int) cX9_oddsAll (zRI N [] M0 (-2147483648) (2147483647) (fun _ _ => True)) (4, [some (.ref 386), some (.int v4_1), some (.int v4_2)], [], M)) := by
    intro n
    induction n with
    | zero =>
      exact (fun M v4_1 v4_2 hJ v4_10 v4_11 v4_20 v4_21 hn => absurd hn (by omega))
    | succ n ih =>
      have ih4 := ih
      · intro M v4_1 v4_2 hJ v4_10 v4_11 v4_20 v4_21 hn
        refine w_lo dX9_oddsAll_4 rfl rfl rfl rfl ?_
        refine w_lo dX9_oddsAll_5 rfl rfl rfl rfl ?_
        refine w_gf dX9_oddsAll_6 rfl hJ.1.1 zs_386 (zr_386_21 hJ.1) ?_
        refine w_lo dX9_oddsAll_9 rfl rfl rfl rfl ?_
        refine w_gfi dX9_oddsAll_10 rfl hJ.1 zs_386 (Nat.le_of_ble_eq_true rfl) zo_386_12 ?_
        intro x1 f2 h3 h4
        refine w_iai dX9_oddsAll_13 hJ.1 zs_396 (by omega) (by omega) zu_396 ?_
        intro x8 f5 h6 h7
        rcases zcut v4_2.toInt x8.toInt with h9 | h9
        · skip
          refine w_cge_f dX9_oddsAll_14 (t := 40) rfl (by omega) ?_
          refine w_lo dX9_oddsAll_17 rfl rfl rfl rfl ?_
          refine w_lo dX9_oddsAll_18 rfl rfl rfl rfl ?_
          refine w_gf dX9_oddsAll_19 rfl hJ.1.1 zs_386 (zr_386_26 hJ.1) ?_
          refine w_bi dX9_oddsAll_22 (c := 6) (by decide) ?_
          refine w_lo dX9_oddsAll_24 rfl rfl rfl rfl ?_
          refine w_gf dX9_oddsAll_25 rfl hJ.1.1 zs_386 f2 ?_
          refine w_mulc dX9_oddsAll_28 zt_6 (by have := zt_6; omega) ?_
          intro x10 h11
          have := zt_6
          refine w_lo dX9_oddsAll_29 rfl rfl rfl rfl ?_
          refine w_add dX9_oddsAll_30 (by omega) ?_
          intro x12 h13
          refine w_iai dX9_oddsAll_31 hJ.1 zs_401 (by omega) (by omega) zu_401 ?_
          intro x17 f14 h15 h16
          refine w_puI dX9_oddsAll_32 rfl rfl ?_
          intro x18
          refine w_lo (ml' := [some (.ref 386), some (.int x18), some (.int v4_2)]) dX9_oddsAll_33 rfl rfl rfl rfl ?_
          refine w_inc (kk := 2) dX9_oddsAll_34 rfl (m := 1) (by decide) (by omega) ?_
          intro x19 h20
          refine ⟨_, rfl, ?_⟩
          show ZW _ _ _ _ _ _ _ (37, [some (.ref 386), some (.int x18), some (.int x19)], [], M)
          refine w_gt dX9_oddsAll_37 (t := 4) rfl ?_
          exact ih4 M x18 x19 hJ (zbot _) (ztop _) (by omega) (by omega) (by omega)
        · skip
          refine w_cge_t dX9_oddsAll_14 (t := 40) rfl (by omega) ?_
          refine w_lo dX9_oddsAll_40 rfl rfl rfl rfl ?_
          refine w_eni dX9_oddsAll_41 rfl rfl ?_
          exact ⟨_, _, rfl, (zbot _), (ztop _), hJ, trivial⟩
  have ih4 := main 30
  show ZW _ _ _ _ _ _ _ (0, [some (.ref 386), none, none], [], M0)
  refine w_ic dX9_oddsAll_0 zi_0 ?_
  refine w_lo (ml' := [some (.ref 386), some (.int 0), none]) dX9_oddsAll_1 rfl rfl rfl rfl ?_
  refine w_ic dX9_oddsAll_2 zi_0 ?_
  refine w_lo (ml' := [some (.ref 386), some (.int 0), some (.int 0)]) dX9_oddsAll_3 rfl rfl rfl rfl ?_
  exact ih4 M0 0 0 hJ0 (zbot _) (ztop _) (by have := zt_0; omega) (by have := zt_0; omega) (by have := zt_0; have := zt_0; omega)
set_option maxRecDepth 100000 in
theorem k_2392 {X : List Int32} {d N : Nat} {M0 : zM} (a0 : Int32) (a1 : Int32) (ha10 : (0 : Int) ≤ a1.toInt) (ha11 : a1.toInt ≤ 1) (hN : N ≤ 600) (hB0 : zB N M0) : ZV X (d + 3) 2392 [.ref 386, .int a0, .int a1] M0 (zRI N [(415, 416, 1000), (418, 433, 1000), (386, 387, 64), (386, 387, 65)] M0 (0) (1) (fun _ _ => True)) := by
  have hJ0 : zJ N [(415, 416, 1000), (418, 433, 1000), (386, 387, 64), (386, 387, 65)] M0 M0 := zJ_refl hB0
  refine ZV.of (ini := false) rfl (Nat.le_of_ble_eq_true rfl) (by decide +kernel) ?_
  show ZW _ _ _ _ _ _ _ (0, [some (.ref 386), some (.int a0), some (.int a1)], [], M0)
  refine w_lo dX9_wake_0 rfl rfl rfl rfl ?_
  refine w_lo dX9_wake_1 rfl rfl rfl rfl ?_
  refine w_iv dX9_wake_2 rfl rfl (As := [.int a0]) rfl rfl hJ0.1.1 zs_386 (Nat.le_of_ble_eq_true rfl) ?_
  refine ZV.of (ini := false) rfl (Nat.le_of_ble_eq_true rfl) (by decide +kernel) ?_
  show ZW _ _ _ _ _ _ _ (0, [some (.ref 386), some (.int a0)], [], M0)
  refine w_lo dX9_isBoy_0 rfl rfl rfl rfl ?_
  rcases zcut a0.toInt (0 : Int) with h1 | h1
  · skip
    refine w_ilt_t dX9_isBoy_1 (t := 21) rfl (by omega) ?_
    refine w_ic dX9_isBoy_21 zi_0 ?_
    refine w_en dX9_isBoy_22 rfl ?_
    show ZW _ _ _ _ _ _ _ (5, [some (.ref 386), some (.int a0), some (.int a1)], [.int 0], M0)
    refine w_ieq_t dX9_wake_5 (t := 26) rfl (by have := zt_0; omega) ?_
    refine w_lo dX9_wake_26 rfl rfl rfl rfl ?_
    refine w_ic dX9_wake_27 zi_2 ?_
    refine w_iv dX9_wake_28 rfl rfl (As := [.int 2]) rfl rfl hJ0.1.1 zs_386 (Nat.le_of_ble_eq_true rfl) ?_
    refine ZV.imp (k_2306 2 (by have := zt_2; omega) (by have := zt_2; omega) hN hJ0.1) ?_
    rintro _ ⟨x5, M2, rfl, h6, h7, hJ3, hq4⟩
    have hJ8 := zJ_trans hJ0 hJ3 (zSub_cons (fun _ _ h h' hk => zIR_a (by omega) (by omega)) zSub_nil)
    show ZW _ _ _ _ _ _ _ (31, [some (.ref 386), some (.int a0), some (.int a1)], [.int x5], M2)
    refine w_ilt_t dX9_wake_31 (t := 38) rfl (by omega) ?_
    refine w_ic dX9_wake_38 zi_0 ?_
    refine w_en dX9_wake_39 rfl ?_
    exact ⟨_, _, rfl, (by have := zt_0; omega), (by have := zt_0; omega), hJ8, trivial⟩
  · skip
    refine w_ilt_f dX9_isBoy_1 (t := 21) rfl (by omega) ?_
    refine w_lo dX9_isBoy_4 rfl rfl rfl rfl ?_
    refine w_lo dX9_isBoy_5 rfl rfl rfl rfl ?_
    refine w_gf dX9_isBoy_6 rfl hJ0.1.1 zs_386 (zr_386_13 hJ0.1) ?_
    refine w_lo dX9_isBoy_9 rfl rfl rfl rfl ?_
    refine w_gfi dX9_isBoy_10 rfl hJ0.1 zs_386 (Nat.le_of_ble_eq_true rfl) zo_386_12 ?_
    intro x9 f10 h11 h12
    refine w_iai dX9_isBoy_13 hJ0.1 zs_388 (by omega) (by omega) zu_388 ?_
    intro x16 f13 h14 h15
    rcases zcut a0.toInt x16.toInt with h17 | h17
    · skip
      refine w_cge_f dX9_isBoy_14 (t := 21) rfl (by omega) ?_
      refine w_ic dX9_isBoy_17 zi_1 ?_
      refine w_gt dX9_isBoy_18 (t := 22) rfl ?_
      refine w_en dX9_isBoy_22 rfl ?_
      show ZW _ _ _ _ _ _ _ (5, [some (.ref 386), some (.int a0), some (.int a1)], [.int 1], M0)
      refine w_ieq_f dX9_wake_5 (t := 26) rfl (by have := zt_1; omega) ?_
      refine w_lo dX9_wake_8 rfl rfl rfl rfl ?_
      refine w_gf dX9_wake_9 rfl hJ0.1.1 zs_386 (zr_386_51 hJ0.1) ?_
      refine w_lo dX9_wake_12 rfl rfl rfl rfl ?_
      refine w_iai dX9_wake_13 hJ0.1 zs_420 (by omega) (by omega) zu_420 ?_
      intro x21 f18 h19 h20
      rcases Int.decEq x21.toInt (0 : Int) with h22 | h22
      · skip
        refine w_ine_t dX9_wake_14 (t := 21) rfl (by omega) ?_
        refine w_ic dX9_wake_21 zi_0 ?_
        refine w_lo dX9_wake_22 rfl rfl rfl rfl ?_
        rcases Int.decEq (0 : Int) a1.toInt with h23 | h23
        · skip
          refine w_cne_t dX9_wake_23 (t := 40) rfl (by have := zt_0; omega) ?_
          refine w_lo dX9_wake_40 rfl rfl rfl rfl ?_
          refine w_iv dX9_wake_41 rfl rfl (As := []) rfl rfl hJ0.1.1 zs_386 (Nat.le_of_ble_eq_true rfl) ?_
          refine ZV.imp (k_2377 hN hJ0.1) ?_
          rintro _ ⟨M24, rfl, hJ25, hq26⟩
          have hJ27 := zJ_trans hJ0 hJ25 (zSub_cons (fun _ _ h h' hk => zIR_s (zIR_a (by omega) (by omega))) (zSub_cons (fun _ _ h h' hk => zIR_s (zIR_s (zIR_e (by omega) (by omega) hk))) (zSub_cons (fun _ _ h h' hk => zIR_s (zIR_s (zIR_s (zIR_e (by omega) (by omega) hk)))) zSub_nil)))
          show ZW _ _ _ _ _ _ _ (44, [some (.ref 386), some (.int a0), some (.int a1)], [], M24)
          refine w_lo dX9_wake_44 rfl rfl rfl rfl ?_
          refine w_ieq_f dX9_wake_45 (t := 57) rfl (by omega) ?_
          refine w_lo dX9_wake_48 rfl rfl rfl rfl ?_
          refine w_ic dX9_wake_49 zi_0 ?_
          refine w_lo dX9_wake_50 rfl rfl rfl rfl ?_
          refine w_iv dX9_wake_51 rfl rfl (As := [.int 0, .int a0]) rfl rfl hJ27.1.1 zs_386 (Nat.le_of_ble_eq_true rfl) ?_
          refine ZV.imp (k_2387 0 (by have := zt_0; omega) (by have := zt_0; omega) a0 (by omega) (by omega) hN hJ27.1) ?_
          rintro _ ⟨M28, rfl, hJ29, hq30⟩
          have hJ31 := zJ_trans hJ27 hJ29 (zSub_cons (fun _ _ h h' hk => zIR_s (zIR_a (by omega) (by omega))) zSub_nil)
          show ZW _ _ _ _ _ _ _ (54, [some (.ref 386), some (.int a0), some (.int a1)], [], M28)
          refine w_gt dX9_wake_54 (t := 64) rfl ?_
          refine w_ic dX9_wake_64 zi_1 ?_
          refine w_en dX9_wake_65 rfl ?_
          exact ⟨_, _, rfl, (by have := zt_1; omega), (by have := zt_1; omega), hJ31, trivial⟩
        · skip
          refine w_cne_f dX9_wake_23 (t := 40) rfl (by have := zt_0; omega) ?_
          refine w_lo dX9_wake_26 rfl rfl rfl rfl ?_
          refine w_ic dX9_wake_27 zi_2 ?_
          refine w_iv dX9_wake_28 rfl rfl (As := [.int 2]) rfl rfl hJ0.1.1 zs_386 (Nat.le_of_ble_eq_true rfl) ?_
          refine ZV.imp (k_2306 2 (by have := zt_2; omega) (by have := zt_2; omega) hN hJ0.1) ?_
          rintro _ ⟨x35, M32, rfl, h36, h37, hJ33, hq34⟩
          have hJ38 := zJ_trans hJ0 hJ33 (zSub_cons (fun _ _ h h' hk => zIR_a (by omega) (by omega)) zSub_nil)
          show ZW _ _ _ _ _ _ _ (31, [some (.ref 386), some (.int a0), some (.int a1)], [.int x35], M32)
          refine w_ilt_t dX9_wake_31 (t := 38) rfl (by omega) ?_
          refine w_ic dX9_wake_38 zi_0 ?_
          refine w_en dX9_wake_39 rfl ?_
          exact ⟨_, _, rfl, (by have := zt_0; omega), (by have := zt_0; omega), hJ38, trivial⟩
      · skip
        refine w_ine_f dX9_wake_14 (t := 21) rfl (by omega) ?_
        refine w_ic dX9_wake_17 zi_1 ?_
        refine w_gt dX9_wake_18 (t := 22) rfl ?_
        refine w_lo dX9_wake_22 rfl rfl rfl rfl ?_
        rcases Int.decEq (1 : Int) a1.toInt with h39 | h39
        · skip
          refine w_cne_t dX9_wake_23 (t := 40) rfl (by have := zt_1; omega) ?_
          refine w_lo dX9_wake_40 rfl rfl rfl rfl ?_
          refine w_iv dX9_wake_41 rfl rfl (As := []) rfl rfl hJ0.1.1 zs_386 (Nat.le_of_ble_eq_true rfl) ?_
          refine ZV.imp (k_2377 hN hJ0.1) ?_
          rintro _ ⟨M40, rfl, hJ41, hq42⟩
          have hJ43 := zJ_trans hJ0 hJ41 (zSub_cons (fun _ _ h h' hk => zIR_s (zIR_a (by omega) (by omega))) (zSub_cons (fun _ _ h h' hk => zIR_s (zIR_s (zIR_e (by omega) (by omega) hk))) (zSub_cons (fun _ _ h h' hk => zIR_s (zIR_s (zIR_s (zIR_e (by omega) (by omega) hk)))) zSub_nil)))
          show ZW _ _ _ _ _ _ _ (44, [some (.ref 386), some (.int a0), some (.int a1)], [], M40)
          refine w_lo dX9_wake_44 rfl rfl rfl rfl ?_
          refine w_ieq_t dX9_wake_45 (t := 57) rfl (by omega) ?_
          refine w_lo dX9_wake_57 rfl rfl rfl rfl ?_
          refine w_gf dX9_wake_58 rfl hJ43.1.1 zs_386 (zr_386_51 hJ43.1) ?_
          refine w_lo dX9_wake_61 rfl rfl rfl rfl ?_
          refine w_ic dX9_wake_62 zi_1 ?_
          refine w_isi dX9_wake_63 hJ43 zs_420 (by omega) (by omega) zu_420 (by have := zt_1; omega) (by have := zt_1; omega) (zIR_s (zIR_a (by omega) (by omega))) ?_
          intro M44 hJ45 f46 hn47
          refine w_ic dX9_wake_64 zi_1 ?_
          refine w_en dX9_wake_65 rfl ?_
          exact ⟨_, _, rfl, (by have := zt_1; omega), (by have := zt_1; omega), hJ45, trivial⟩
        · skip
          refine w_cne_f dX9_wake_23 (t := 40) rfl (by have := zt_1; omega) ?_
          refine w_lo dX9_wake_26 rfl rfl rfl rfl ?_
          refine w_ic dX9_wake_27 zi_2 ?_
          refine w_iv dX9_wake_28 rfl rfl (As := [.int 2]) rfl rfl hJ0.1.1 zs_386 (Nat.le_of_ble_eq_true rfl) ?_
          refine ZV.imp (k_2306 2 (by have := zt_2; omega) (by have := zt_2; omega) hN hJ0.1) ?_
          rintro _ ⟨x51, M48, rfl, h52, h53, hJ49, hq50⟩
          have hJ54 := zJ_trans hJ0 hJ49 (zSub_cons (fun _ _ h h' hk => zIR_a (by omega) (by omega)) zSub_nil)
          show ZW _ _ _ _ _ _ _ (31, [some (.ref 386), some (.int a0), some (.int a1)], [.int x51], M48)
          refine w_ilt_t dX9_wake_31 (t := 38) rfl (by omega) ?_
          refine w_ic dX9_wake_38 zi_0 ?_
          refine w_en dX9_wake_39 rfl ?_
          exact ⟨_, _, rfl, (by have := zt_0; omega), (by have := zt_0; omega), hJ54, trivial⟩
    · skip
      refine w_cge_t dX9_isBoy_14 (t := 21) rfl (by omega) ?_
      refine w_ic dX9_isBoy_21 zi_0 ?_
      refine w_en dX9_isBoy_22 rfl ?_
      show ZW _ _ _ _ _ _ _ (5, [some (.ref 386), some (.int a0), some (.int a1)], [.int 0], M0)
      refine w_ieq_t dX9_wake_5 (t := 26) rfl (by have := zt_0; omega) ?_
      refine w_lo dX9_wake_26 rfl rfl rfl rfl ?_
      refine w_ic dX9_wake_27 zi_2 ?_
      refine w_iv dX9_wake_28 rfl rfl (As := [.int 2]) rfl rfl hJ0.1.1 zs_386 (Nat.le_of_ble_eq_true rfl) ?_
      refine ZV.imp (k_2306 2 (by have := zt_2; omega) (by have := zt_2; omega) hN hJ0.1) ?_
      rintro _ ⟨x58, M55, rfl, h59, h60, hJ56, hq57⟩
      have hJ61 := zJ_trans hJ0 hJ56 (zSub_cons (fun _ _ h h' hk => zIR_a (by omega) (by omega)) zSub_nil)
      show ZW _ _ _ _ _ _ _ (31, [some (.ref 386), some (.int a0), some (.int a1)], [.int x58], M55)
      refine w_ilt_t dX9_wake_31 (t := 38) rfl (by omega) ?_
      refine w_ic dX9_wake_38 zi_0 ?_
      refine w_en dX9_wake_39 rfl ?_
      exact ⟨_, _, rfl, (by have := zt_0; omega), (by have := zt_0; omega), hJ61, trivial⟩
set_option maxRecDepth 100000 in
theorem k_2393 {X : List Int32} {d N : Nat} {M0 : zM} (a0 : Int32) (a1 : Int32) (ha10 : (0 : Int) ≤ a1.toInt) (ha11 : a1.toInt ≤ 1) (hN : N ≤ 600) (hB0 : zB N M0) : ZV X (d + 3) 2393 [.ref 386, .int a0, .int a1] M0 (zRI N [(415, 416, 1000), (418, 433, 1000), (386, 387, 64), (386, 387, 65)] M0 (0) (1) (fun _ _ => True)) := by
  have hJ0 : zJ N [(415, 416, 1000), (418, 433, 1000), (386, 387, 64), (386, 387, 65)] M0 M0 := zJ_refl hB0
  refine ZV.of (ini := false) rfl (Nat.le_of_ble_eq_true rfl) (by decide +kernel) ?_
  show ZW _ _ _ _ _ _ _ (0, [some (.ref 386), some (.int a0), some (.int a1)], [], M0)
  refine w_lo dX9_tie_0 rfl rfl rfl rfl ?_
  refine w_lo dX9_tie_1 rfl rfl rfl rfl ?_
  refine w_iv dX9_tie_2 rfl rfl (As := [.int a0]) rfl rfl hJ0.1.1 zs_386 (Nat.le_of_ble_eq_true rfl) ?_
  refine ZV.of (ini := false) rfl (Nat.le_of_ble_eq_true rfl) (by decide +kernel) ?_
  show ZW _ _ _ _ _ _ _ (0, [some (.ref 386), some (.int a0)], [], M0)
  refine w_lo dX9_isKnot_0 rfl rfl rfl rfl ?_
  rcases zcut a0.toInt (0 : Int) with h1 | h1
  · skip
    refine w_ilt_t dX9_isKnot_1 (t := 23) rfl (by omega) ?_
    refine w_ic dX9_isKnot_23 zi_0 ?_
    refine w_en dX9_isKnot_24 rfl ?_
    show ZW _ _ _ _ _ _ _ (5, [some (.ref 386), some (.int a0), some (.int a1)], [.int 0], M0)
    refine w_ieq_t dX9_tie_5 (t := 27) rfl (by have := zt_0; omega) ?_
    refine w_lo dX9_tie_27 rfl rfl rfl rfl ?_
    refine w_ic dX9_tie_28 zi_3 ?_
    refine w_iv dX9_tie_29 rfl rfl (As := [.int 3]) rfl rfl hJ0.1.1 zs_386 (Nat.le_of_ble_eq_true rfl) ?_
    refine ZV.imp (k_2306 3 (by have := zt_3; omega) (by have := zt_3; omega) hN hJ0.1) ?_
    rintro _ ⟨x5, M2, rfl, h6, h7, hJ3, hq4⟩
    have hJ8 := zJ_trans hJ0 hJ3 (zSub_cons (fun _ _ h h' hk => zIR_a (by omega) (by omega)) zSub_nil)
    show ZW _ _ _ _ _ _ _ (32, [some (.ref 386), some (.int a0), some (.int a1)], [.int x5], M2)
    refine w_ilt_t dX9_tie_32 (t := 39) rfl (by omega) ?_
    refine w_ic dX9_tie_39 zi_0 ?_
    refine w_en dX9_tie_40 rfl ?_
    exact ⟨_, _, rfl, (by have := zt_0; omega), (by have := zt_0; omega), hJ8, trivial⟩
  · skip
    refine w_ilt_f dX9_isKnot_1 (t := 23) rfl (by omega) ?_
    refine w_lo dX9_isKnot_4 rfl rfl rfl rfl ?_
    refine w_lo dX9_isKnot_5 rfl rfl rfl rfl ?_
    refine w_gf dX9_isKnot_6 rfl hJ0.1.1 zs_386 (zr_386_13 hJ0.1) ?_
    refine w_lo dX9_isKnot_9 rfl rfl rfl rfl ?_
    refine w_gfi dX9_isKnot_10 rfl hJ0.1 zs_386 (Nat.le_of_ble_eq_true rfl) zo_386_12 ?_
    intro x9 f10 h11 h12
    refine w_iai dX9_isKnot_13 hJ0.1 zs_388 (by omega) (by omega) zu_388 ?_
    intro x16 f13 h14 h15
    refine w_ic dX9_isKnot_14 zi_1 ?_
    refine w_sub dX9_isKnot_15 (by have := zt_1; omega) ?_
    intro x17 h18
    have := zt_1
    rcases zcut a0.toInt x17.toInt with h19 | h19
    · skip
      refine w_cge_f dX9_isKnot_16 (t := 23) rfl (by omega) ?_
      refine w_ic dX9_isKnot_19 zi_1 ?_
      refine w_gt dX9_isKnot_20 (t := 24) rfl ?_
      refine w_en dX9_isKnot_24 rfl ?_
      show ZW _ _ _ _ _ _ _ (5, [some (.ref 386), some (.int a0), some (.int a1)], [.int 1], M0)
      refine w_ieq_f dX9_tie_5 (t := 27) rfl (by have := zt_1; omega) ?_
      refine w_lo dX9_tie_8 rfl rfl rfl rfl ?_
      refine w_gf dX9_tie_9 rfl hJ0.1.1 zs_386 (zr_386_60 hJ0.1) ?_
      refine w_lo dX9_tie_12 rfl rfl rfl rfl ?_
      refine w_iai dX9_tie_13 hJ0.1 zs_429 (by omega) (by omega) zu_429 ?_
      intro x23 f20 h21 h22
      refine w_ic dX9_tie_14 zi_1 ?_
      rcases Int.decEq x23.toInt (1 : Int) with h24 | h24
      · skip
        refine w_cne_t dX9_tie_15 (t := 22) rfl (by have := zt_1; omega) ?_
        refine w_ic dX9_tie_22 zi_0 ?_
        refine w_lo dX9_tie_23 rfl rfl rfl rfl ?_
        rcases Int.decEq (0 : Int) a1.toInt with h25 | h25
        · skip
          refine w_cne_t dX9_tie_24 (t := 41) rfl (by have := zt_0; omega) ?_
          refine w_lo dX9_tie_41 rfl rfl rfl rfl ?_
          refine w_iv dX9_tie_42 rfl rfl (As := []) rfl rfl hJ0.1.1 zs_386 (Nat.le_of_ble_eq_true rfl) ?_
          refine ZV.imp (k_2377 hN hJ0.1) ?_
          rintro _ ⟨M26, rfl, hJ27, hq28⟩
          have hJ29 := zJ_trans hJ0 hJ27 (zSub_cons (fun _ _ h h' hk => zIR_s (zIR_a (by omega) (by omega))) (zSub_cons (fun _ _ h h' hk => zIR_s (zIR_s (zIR_e (by omega) (by omega) hk))) (zSub_cons (fun _ _ h h' hk => zIR_s (zIR_s (zIR_s (zIR_e (by omega) (by omega) hk)))) zSub_nil)))
          show ZW _ _ _ _ _ _ _ (45, [some (.ref 386), some (.int a0), some (.int a1)], [], M26)
          refine w_lo dX9_tie_45 rfl rfl rfl rfl ?_
          refine w_gf dX9_tie_46 rfl hJ29.1.1 zs_386 (zr_386_60 hJ29.1) ?_
          refine w_lo dX9_tie_49 rfl rfl rfl rfl ?_
          refine w_lo dX9_tie_50 rfl rfl rfl rfl ?_
          refine w_ieq_f dX9_tie_51 (t := 58) rfl (by omega) ?_
          refine w_ic dX9_tie_54 zi_1 ?_
          refine w_gt dX9_tie_55 (t := 59) rfl ?_
          refine w_isi dX9_tie_59 hJ29 zs_429 (by omega) (by omega) zu_429 (by have := zt_1; omega) (by have := zt_1; omega) (zIR_s (zIR_a (by omega) (by omega))) ?_
          intro M30 hJ31 f32 hn33
          refine w_ic dX9_tie_60 zi_1 ?_
          refine w_en dX9_tie_61 rfl ?_
          exact ⟨_, _, rfl, (by have := zt_1; omega), (by have := zt_1; omega), hJ31, trivial⟩
        · skip
          refine w_cne_f dX9_tie_24 (t := 41) rfl (by have := zt_0; omega) ?_
          refine w_lo dX9_tie_27 rfl rfl rfl rfl ?_
          refine w_ic dX9_tie_28 zi_3 ?_
          refine w_iv dX9_tie_29 rfl rfl (As := [.int 3]) rfl rfl hJ0.1.1 zs_386 (Nat.le_of_ble_eq_true rfl) ?_
          refine ZV.imp (k_2306 3 (by have := zt_3; omega) (by have := zt_3; omega) hN hJ0.1) ?_
          rintro _ ⟨x37, M34, rfl, h38, h39, hJ35, hq36⟩
          have hJ40 := zJ_trans hJ0 hJ35 (zSub_cons (fun _ _ h h' hk => zIR_a (by omega) (by omega)) zSub_nil)
          show ZW _ _ _ _ _ _ _ (32, [some (.ref 386), some (.int a0), some (.int a1)], [.int x37], M34)
          refine w_ilt_t dX9_tie_32 (t := 39) rfl (by omega) ?_
          refine w_ic dX9_tie_39 zi_0 ?_
          refine w_en dX9_tie_40 rfl ?_
          exact ⟨_, _, rfl, (by have := zt_0; omega), (by have := zt_0; omega), hJ40, trivial⟩
      · skip
        refine w_cne_f dX9_tie_15 (t := 22) rfl (by have := zt_1; omega) ?_
        refine w_ic dX9_tie_18 zi_1 ?_
        refine w_gt dX9_tie_19 (t := 23) rfl ?_
        refine w_lo dX9_tie_23 rfl rfl rfl rfl ?_
        rcases Int.decEq (1 : Int) a1.toInt with h41 | h41
        · skip
          refine w_cne_t dX9_tie_24 (t := 41) rfl (by have := zt_1; omega) ?_
          refine w_lo dX9_tie_41 rfl rfl rfl rfl ?_
          refine w_iv dX9_tie_42 rfl rfl (As := []) rfl rfl hJ0.1.1 zs_386 (Nat.le_of_ble_eq_true rfl) ?_
          refine ZV.imp (k_2377 hN hJ0.1) ?_
          rintro _ ⟨M42, rfl, hJ43, hq44⟩
          have hJ45 := zJ_trans hJ0 hJ43 (zSub_cons (fun _ _ h h' hk => zIR_s (zIR_a (by omega) (by omega))) (zSub_cons (fun _ _ h h' hk => zIR_s (zIR_s (zIR_e (by omega) (by omega) hk))) (zSub_cons (fun _ _ h h' hk => zIR_s (zIR_s (zIR_s (zIR_e (by omega) (by omega) hk)))) zSub_nil)))
          show ZW _ _ _ _ _ _ _ (45, [some (.ref 386), some (.int a0), some (.int a1)], [], M42)
          refine w_lo dX9_tie_45 rfl rfl rfl rfl ?_
          refine w_gf dX9_tie_46 rfl hJ45.1.1 zs_386 (zr_386_60 hJ45.1) ?_
          refine w_lo dX9_tie_49 rfl rfl rfl rfl ?_
          refine w_lo dX9_tie_50 rfl rfl rfl rfl ?_
          refine w_ieq_t dX9_tie_51 (t := 58) rfl (by omega) ?_
          refine w_ic dX9_tie_58 zi_0 ?_
          refine w_isi dX9_tie_59 hJ45 zs_429 (by omega) (by omega) zu_429 (by have := zt_0; omega) (by have := zt_0; omega) (zIR_s (zIR_a (by omega) (by omega))) ?_
          intro M46 hJ47 f48 hn49
          refine w_ic dX9_tie_60 zi_1 ?_
          refine w_en dX9_tie_61 rfl ?_
          exact ⟨_, _, rfl, (by have := zt_1; omega), (by have := zt_1; omega), hJ47, trivial⟩
        · skip
          refine w_cne_f dX9_tie_24 (t := 41) rfl (by have := zt_1; omega) ?_
          refine w_lo dX9_tie_27 rfl rfl rfl rfl ?_
          refine w_ic dX9_tie_28 zi_3 ?_
          refine w_iv dX9_tie_29 rfl rfl (As := [.int 3]) rfl rfl hJ0.1.1 zs_386 (Nat.le_of_ble_eq_true rfl) ?_
          refine ZV.imp (k_2306 3 (by have := zt_3; omega) (by have := zt_3; omega) hN hJ0.1) ?_
          rintro _ ⟨x53, M50, rfl, h54, h55, hJ51, hq52⟩
          have hJ56 := zJ_trans hJ0 hJ51 (zSub_cons (fun _ _ h h' hk => zIR_a (by omega) (by omega)) zSub_nil)
          show ZW _ _ _ _ _ _ _ (32, [some (.ref 386), some (.int a0), some (.int a1)], [.int x53], M50)
          refine w_ilt_t dX9_tie_32 (t := 39) rfl (by omega) ?_
          refine w_ic dX9_tie_39 zi_0 ?_
          refine w_en dX9_tie_40 rfl ?_
          exact ⟨_, _, rfl, (by have := zt_0; omega), (by have := zt_0; omega), hJ56, trivial⟩
    · skip
      refine w_cge_t dX9_isKnot_16 (t := 23) rfl (by omega) ?_
      refine w_ic dX9_isKnot_23 zi_0 ?_
      refine w_en dX9_isKnot_24 rfl ?_
      show ZW _ _ _ _ _ _ _ (5, [some (.ref 386), some (.int a0), some (.int a1)], [.int 0], M0)
      refine w_ieq_t dX9_tie_5 (t := 27) rfl (by have := zt_0; omega) ?_
      refine w_lo dX9_tie_27 rfl rfl rfl rfl ?_
      refine w_ic dX9_tie_28 zi_3 ?_
      refine w_iv dX9_tie_29 rfl rfl (As := [.int 3]) rfl rfl hJ0.1.1 zs_386 (Nat.le_of_ble_eq_true rfl) ?_
      refine ZV.imp (k_2306 3 (by have := zt_3; omega) (by have := zt_3; omega) hN hJ0.1) ?_
      rintro _ ⟨x60, M57, rfl, h61, h62, hJ58, hq59⟩
      have hJ63 := zJ_trans hJ0 hJ58 (zSub_cons (fun _ _ h h' hk => zIR_a (by omega) (by omega)) zSub_nil)
      show ZW _ _ _ _ _ _ _ (32, [some (.ref 386), some (.int a0), some (.int a1)], [.int x60], M57)
      refine w_ilt_t dX9_tie_32 (t := 39) rfl (by omega) ?_
      refine w_ic dX9_tie_39 zi_0 ?_
      refine w_en dX9_tie_40 rfl ?_
      exact ⟨_, _, rfl, (by have := zt_0; omega), (by have := zt_0; omega), hJ63, trivial⟩
set_option maxRecDepth 100000 in
theorem k_2394 {X : List Int32} {d N : Nat} {M0 : zM} (a0 : Int32) (a1 : Int32) (hN : N ≤ 600) (hB0 : zB N M0) : ZV X (d + 3) 2394 [.ref 386, .int a0, .int a1] M0 (zRI N [(415, 416, 1000), (418, 433, 1000), (386, 387, 64), (386, 387, 65)] M0 (-2147483648) (2147483647) (fun _ _ => True)) := by
  have hJ0 : zJ N [(415, 416, 1000), (418, 433, 1000), (386, 387, 64), (386, 387, 65)] M0 M0 := zJ_refl hB0
  refine ZV.of (ini := false) rfl (Nat.le_of_ble_eq_true rfl) (by decide +kernel) ?_
  show ZW _ _ _ _ _ _ _ (0, [some (.ref 386), some (.int a0), some (.int a1), none], [], M0)
  refine w_lo dX9_slack_0 rfl rfl rfl rfl ?_
  refine w_lo dX9_slack_1 rfl rfl rfl rfl ?_
  refine w_iv dX9_slack_2 rfl rfl (As := [.int a0]) rfl rfl hJ0.1.1 zs_386 (Nat.le_of_ble_eq_true rfl) ?_
  refine ZV.of (ini := false) rfl (Nat.le_of_ble_eq_true rfl) (by decide +kernel) ?_
  show ZW _ _ _ _ _ _ _ (0, [some (.ref 386), some (.int a0)], [], M0)
  refine w_lo dX9_isKnot_0 rfl rfl rfl rfl ?_
  rcases zcut a0.toInt (0 : Int) with h1 | h1
  · skip
    refine w_ilt_t dX9_isKnot_1 (t := 23) rfl (by omega) ?_
    refine w_ic dX9_isKnot_23 zi_0 ?_
    refine w_en dX9_isKnot_24 rfl ?_
    show ZW _ _ _ _ _ _ _ (5, [some (.ref 386), some (.int a0), some (.int a1), none], [.int 0], M0)
    refine w_ieq_t dX9_slack_5 (t := 18) rfl (by have := zt_0; omega) ?_
    refine w_lo dX9_slack_18 rfl rfl rfl rfl ?_
    refine w_ic dX9_slack_19 zi_3 ?_
    refine w_iv dX9_slack_20 rfl rfl (As := [.int 3]) rfl rfl hJ0.1.1 zs_386 (Nat.le_of_ble_eq_true rfl) ?_
    refine ZV.imp (k_2306 3 (by have := zt_3; omega) (by have := zt_3; omega) hN hJ0.1) ?_
    rintro _ ⟨x5, M2, rfl, h6, h7, hJ3, hq4⟩
    have hJ8 := zJ_trans hJ0 hJ3 (zSub_cons (fun _ _ h h' hk => zIR_a (by omega) (by omega)) zSub_nil)
    show ZW _ _ _ _ _ _ _ (23, [some (.ref 386), some (.int a0), some (.int a1), none], [.int x5], M2)
    refine w_eni dX9_slack_23 rfl rfl ?_
    exact ⟨_, _, rfl, (zbot _), (ztop _), hJ8, trivial⟩
  · skip
    refine w_ilt_f dX9_isKnot_1 (t := 23) rfl (by omega) ?_
    refine w_lo dX9_isKnot_4 rfl rfl rfl rfl ?_
    refine w_lo dX9_isKnot_5 rfl rfl rfl rfl ?_
    refine w_gf dX9_isKnot_6 rfl hJ0.1.1 zs_386 (zr_386_13 hJ0.1) ?_
    refine w_lo dX9_isKnot_9 rfl rfl rfl rfl ?_
    refine w_gfi dX9_isKnot_10 rfl hJ0.1 zs_386 (Nat.le_of_ble_eq_true rfl) zo_386_12 ?_
    intro x9 f10 h11 h12
    refine w_iai dX9_isKnot_13 hJ0.1 zs_388 (by omega) (by omega) zu_388 ?_
    intro x16 f13 h14 h15
    refine w_ic dX9_isKnot_14 zi_1 ?_
    refine w_sub dX9_isKnot_15 (by have := zt_1; omega) ?_
    intro x17 h18
    have := zt_1
    rcases zcut a0.toInt x17.toInt with h19 | h19
    · skip
      refine w_cge_f dX9_isKnot_16 (t := 23) rfl (by omega) ?_
      refine w_ic dX9_isKnot_19 zi_1 ?_
      refine w_gt dX9_isKnot_20 (t := 24) rfl ?_
      refine w_en dX9_isKnot_24 rfl ?_
      show ZW _ _ _ _ _ _ _ (5, [some (.ref 386), some (.int a0), some (.int a1), none], [.int 1], M0)
      refine w_ieq_f dX9_slack_5 (t := 18) rfl (by have := zt_1; omega) ?_
      refine w_lo dX9_slack_8 rfl rfl rfl rfl ?_
      refine w_ic dX9_slack_9 zi_0 ?_
      refine w_bi dX9_slack_10 (c := 99) (by decide) ?_
      refine w_ss dX9_slack_12 rfl rfl (As := [.int a1, .int 0, .int 99]) rfl rfl (Nat.le_of_ble_eq_true rfl) ?_
      refine ZV.of (ini := false) rfl (Nat.le_of_ble_eq_true rfl) (by decide +kernel) ?_
      show ZW _ _ _ _ _ _ _ (0, [some (.int a1), some (.int 0), some (.int 99)], [], M0)
      refine w_lo dX9_is_0 rfl rfl rfl rfl ?_
      refine w_lo dX9_is_1 rfl rfl rfl rfl ?_
      rcases zcut a1.toInt (0 : Int) with h20 | h20
      · skip
        refine w_clt_t dX9_is_2 (t := 14) rfl (by have := zt_0; omega) ?_
        refine w_ic dX9_is_14 zi_0 ?_
        refine w_en dX9_is_15 rfl ?_
        show ZW _ _ _ _ _ _ _ (15, [some (.ref 386), some (.int a0), some (.int a1), none], [.int 0], M0)
        refine w_ine_f dX9_slack_15 (t := 24) rfl (by have := zt_0; omega) ?_
        refine w_lo dX9_slack_18 rfl rfl rfl rfl ?_
        refine w_ic dX9_slack_19 zi_3 ?_
        refine w_iv dX9_slack_20 rfl rfl (As := [.int 3]) rfl rfl hJ0.1.1 zs_386 (Nat.le_of_ble_eq_true rfl) ?_
        refine ZV.imp (k_2306 3 (by have := zt_3; omega) (by have := zt_3; omega) hN hJ0.1) ?_
        rintro _ ⟨x24, M21, rfl, h25, h26, hJ22, hq23⟩
        have hJ27 := zJ_trans hJ0 hJ22 (zSub_cons (fun _ _ h h' hk => zIR_a (by omega) (by omega)) zSub_nil)
        show ZW _ _ _ _ _ _ _ (23, [some (.ref 386), some (.int a0), some (.int a1), none], [.int x24], M21)
        refine w_eni dX9_slack_23 rfl rfl ?_
        exact ⟨_, _, rfl, (zbot _), (ztop _), hJ27, trivial⟩
      · skip
        refine w_clt_f dX9_is_2 (t := 14) rfl (by have := zt_0; omega) ?_
        refine w_lo dX9_is_5 rfl rfl rfl rfl ?_
        refine w_lo dX9_is_6 rfl rfl rfl rfl ?_
        rcases zcut (99 : Int) a1.toInt with h28 | h28
        · skip
          refine w_cgt_t dX9_is_7 (t := 14) rfl (by have := zt_99; omega) ?_
          refine w_ic dX9_is_14 zi_0 ?_
          refine w_en dX9_is_15 rfl ?_
          show ZW _ _ _ _ _ _ _ (15, [some (.ref 386), some (.int a0), some (.int a1), none], [.int 0], M0)
          refine w_ine_f dX9_slack_15 (t := 24) rfl (by have := zt_0; omega) ?_
          refine w_lo dX9_slack_18 rfl rfl rfl rfl ?_
          refine w_ic dX9_slack_19 zi_3 ?_
          refine w_iv dX9_slack_20 rfl rfl (As := [.int 3]) rfl rfl hJ0.1.1 zs_386 (Nat.le_of_ble_eq_true rfl) ?_
          refine ZV.imp (k_2306 3 (by have := zt_3; omega) (by have := zt_3; omega) hN hJ0.1) ?_
          rintro _ ⟨x32, M29, rfl, h33, h34, hJ30, hq31⟩
          have hJ35 := zJ_trans hJ0 hJ30 (zSub_cons (fun _ _ h h' hk => zIR_a (by omega) (by omega)) zSub_nil)
          show ZW _ _ _ _ _ _ _ (23, [some (.ref 386), some (.int a0), some (.int a1), none], [.int x32], M29)
          refine w_eni dX9_slack_23 rfl rfl ?_
          exact ⟨_, _, rfl, (zbot _), (ztop _), hJ35, trivial⟩
        · skip
          refine w_cgt_f dX9_is_7 (t := 14) rfl (by have := zt_99; omega) ?_
          refine w_ic dX9_is_10 zi_1 ?_
          refine w_gt dX9_is_11 (t := 15) rfl ?_
          refine w_en dX9_is_15 rfl ?_
          show ZW _ _ _ _ _ _ _ (15, [some (.ref 386), some (.int a0), some (.int a1), none], [.int 1], M0)
          refine w_ine_t dX9_slack_15 (t := 24) rfl (by have := zt_1; omega) ?_
          refine w_lo dX9_slack_24 rfl rfl rfl rfl ?_
          refine w_iv dX9_slack_25 rfl rfl (As := []) rfl rfl hJ0.1.1 zs_386 (Nat.le_of_ble_eq_true rfl) ?_
          refine ZV.imp (k_2377 hN hJ0.1) ?_
          rintro _ ⟨M36, rfl, hJ37, hq38⟩
          have hJ39 := zJ_trans hJ0 hJ37 (zSub_cons (fun _ _ h h' hk => zIR_s (zIR_a (by omega) (by omega))) (zSub_cons (fun _ _ h h' hk => zIR_s (zIR_s (zIR_e (by omega) (by omega) hk))) (zSub_cons (fun _ _ h h' hk => zIR_s (zIR_s (zIR_s (zIR_e (by omega) (by omega) hk)))) zSub_nil)))
          show ZW _ _ _ _ _ _ _ (28, [some (.ref 386), some (.int a0), some (.int a1), none], [], M36)
          refine w_lo dX9_slack_28 rfl rfl rfl rfl ?_
          refine w_gf dX9_slack_29 rfl hJ39.1.1 zs_386 (zr_386_61 hJ39.1) ?_
          refine w_lo dX9_slack_32 rfl rfl rfl rfl ?_
          refine w_iai dX9_slack_33 hJ39.1 zs_430 (by omega) (by omega) zu_430 ?_
          intro x43 f40 h41 h42
          refine w_lo (ml' := [some (.ref 386), some (.int a0), some (.int a1), some (.int x43)]) dX9_slack_34 rfl rfl rfl rfl ?_
          refine w_lo dX9_slack_35 rfl rfl rfl rfl ?_
          refine w_gf dX9_slack_36 rfl hJ39.1.1 zs_386 (zr_386_61 hJ39.1) ?_
          refine w_lo dX9_slack_39 rfl rfl rfl rfl ?_
          refine w_lo dX9_slack_40 rfl rfl rfl rfl ?_
          refine w_isi dX9_slack_41 hJ39 zs_430 (by omega) (by omega) zu_430 (zbot _) (ztop _) (zIR_s (zIR_a (by omega) (by omega))) ?_
          intro M44 hJ45 f46 hn47
          refine w_lo dX9_slack_42 rfl rfl rfl rfl ?_
          refine w_eni dX9_slack_43 rfl rfl ?_
          exact ⟨_, _, rfl, (zbot _), (ztop _), hJ45, trivial⟩
    · skip
      refine w_cge_t dX9_isKnot_16 (t := 23) rfl (by omega) ?_
      refine w_ic dX9_isKnot_23 zi_0 ?_
      refine w_en dX9_isKnot_24 rfl ?_
      show ZW _ _ _ _ _ _ _ (5, [some (.ref 386), some (.int a0), some (.int a1), none], [.int 0], M0)
      refine w_ieq_t dX9_slack_5 (t := 18) rfl (by have := zt_0; omega) ?_
      refine w_lo dX9_slack_18 rfl rfl rfl rfl ?_
      refine w_ic dX9_slack_19 zi_3 ?_
      refine w_iv dX9_slack_20 rfl rfl (As := [.int 3]) rfl rfl hJ0.1.1 zs_386 (Nat.le_of_ble_eq_true rfl) ?_
      refine ZV.imp (k_2306 3 (by have := zt_3; omega) (by have := zt_3; omega) hN hJ0.1) ?_
      rintro _ ⟨x51, M48, rfl, h52, h53, hJ49, hq50⟩
      have hJ54 := zJ_trans hJ0 hJ49 (zSub_cons (fun _ _ h h' hk => zIR_a (by omega) (by omega)) zSub_nil)
      show ZW _ _ _ _ _ _ _ (23, [some (.ref 386), some (.int a0), some (.int a1), none], [.int x51], M48)
      refine w_eni dX9_slack_23 rfl rfl ?_
      exact ⟨_, _, rfl, (zbot _), (ztop _), hJ54, trivial⟩
set_option maxRecDepth 100000 in
theorem k_2395 {X : List Int32} {d N : Nat} {M0 : zM} (a0 : Int32) (a1 : Int32) (hN : N ≤ 600) (hB0 : zB N M0) : ZV X (d + 3) 2395 [.ref 386, .int a0, .int a1] M0 (zRI N [(415, 416, 1000), (418, 433, 1000), (386, 387, 64), (386, 387, 65)] M0 (0) (1) (fun _ _ => True)) := by
  have hJ0 : zJ N [(415, 416, 1000), (418, 433, 1000), (386, 387, 64), (386, 387, 65)] M0 M0 := zJ_refl hB0
  refine ZV.of (ini := false) rfl (Nat.le_of_ble_eq_true rfl) (by decide +kernel) ?_
  show ZW _ _ _ _ _ _ _ (0, [some (.ref 386), some (.int a0), some (.int a1), none], [], M0)
  refine w_lo dX9_swap_0 rfl rfl rfl rfl ?_
  refine w_lo dX9_swap_1 rfl rfl rfl rfl ?_
  refine w_iv dX9_swap_2 rfl rfl (As := [.int a0]) rfl rfl hJ0.1.1 zs_386 (Nat.le_of_ble_eq_true rfl) ?_
  refine ZV.of (ini := false) rfl (Nat.le_of_ble_eq_true rfl) (by decide +kernel) ?_
  show ZW _ _ _ _ _ _ _ (0, [some (.ref 386), some (.int a0)], [], M0)
  refine w_lo dX9_isBoy_0 rfl rfl rfl rfl ?_
  rcases zcut a0.toInt (0 : Int) with h1 | h1
  · skip
    refine w_ilt_t dX9_isBoy_1 (t := 21) rfl (by omega) ?_
    refine w_ic dX9_isBoy_21 zi_0 ?_
    refine w_en dX9_isBoy_22 rfl ?_
    show ZW _ _ _ _ _ _ _ (5, [some (.ref 386), some (.int a0), some (.int a1), none], [.int 0], M0)
    refine w_ieq_t dX9_swap_5 (t := 21) rfl (by have := zt_0; omega) ?_
    refine w_lo dX9_swap_21 rfl rfl rfl rfl ?_
    refine w_ic dX9_swap_22 zi_3 ?_
    refine w_iv dX9_swap_23 rfl rfl (As := [.int 3]) rfl rfl hJ0.1.1 zs_386 (Nat.le_of_ble_eq_true rfl) ?_
    refine ZV.imp (k_2306 3 (by have := zt_3; omega) (by have := zt_3; omega) hN hJ0.1) ?_
    rintro _ ⟨x5, M2, rfl, h6, h7, hJ3, hq4⟩
    have hJ8 := zJ_trans hJ0 hJ3 (zSub_cons (fun _ _ h h' hk => zIR_a (by omega) (by omega)) zSub_nil)
    show ZW _ _ _ _ _ _ _ (26, [some (.ref 386), some (.int a0), some (.int a1), none], [.int x5], M2)
    refine w_ilt_t dX9_swap_26 (t := 33) rfl (by omega) ?_
    refine w_ic dX9_swap_33 zi_0 ?_
    refine w_en dX9_swap_34 rfl ?_
    exact ⟨_, _, rfl, (by have := zt_0; omega), (by have := zt_0; omega), hJ8, trivial⟩
  · skip
    refine w_ilt_f dX9_isBoy_1 (t := 21) rfl (by omega) ?_
    refine w_lo dX9_isBoy_4 rfl rfl rfl rfl ?_
    refine w_lo dX9_isBoy_5 rfl rfl rfl rfl ?_
    refine w_gf dX9_isBoy_6 rfl hJ0.1.1 zs_386 (zr_386_13 hJ0.1) ?_
    refine w_lo dX9_isBoy_9 rfl rfl rfl rfl ?_
    refine w_gfi dX9_isBoy_10 rfl hJ0.1 zs_386 (Nat.le_of_ble_eq_true rfl) zo_386_12 ?_
    intro x9 f10 h11 h12
    refine w_iai dX9_isBoy_13 hJ0.1 zs_388 (by omega) (by omega) zu_388 ?_
    intro x16 f13 h14 h15
    rcases zcut a0.toInt x16.toInt with h17 | h17
    · skip
      refine w_cge_f dX9_isBoy_14 (t := 21) rfl (by omega) ?_
      refine w_ic dX9_isBoy_17 zi_1 ?_
      refine w_gt dX9_isBoy_18 (t := 22) rfl ?_
      refine w_en dX9_isBoy_22 rfl ?_
      show ZW _ _ _ _ _ _ _ (5, [some (.ref 386), some (.int a0), some (.int a1), none], [.int 1], M0)
      refine w_ieq_f dX9_swap_5 (t := 21) rfl (by have := zt_1; omega) ?_
      refine w_lo dX9_swap_8 rfl rfl rfl rfl ?_
      refine w_lo dX9_swap_9 rfl rfl rfl rfl ?_
      refine w_iv dX9_swap_10 rfl rfl (As := [.int a1]) rfl rfl hJ0.1.1 zs_386 (Nat.le_of_ble_eq_true rfl) ?_
      refine ZV.of (ini := false) rfl (Nat.le_of_ble_eq_true rfl) (by decide +kernel) ?_
      show ZW _ _ _ _ _ _ _ (0, [some (.ref 386), some (.int a1)], [], M0)
      refine w_lo dX9_isBoy_0 rfl rfl rfl rfl ?_
      rcases zcut a1.toInt (0 : Int) with h18 | h18
      · skip
        refine w_ilt_t dX9_isBoy_1 (t := 21) rfl (by omega) ?_
        refine w_ic dX9_isBoy_21 zi_0 ?_
        refine w_en dX9_isBoy_22 rfl ?_
        show ZW _ _ _ _ _ _ _ (13, [some (.ref 386), some (.int a0), some (.int a1), none], [.int 0], M0)
        refine w_ieq_t dX9_swap_13 (t := 21) rfl (by have := zt_0; omega) ?_
        refine w_lo dX9_swap_21 rfl rfl rfl rfl ?_
        refine w_ic dX9_swap_22 zi_3 ?_
        refine w_iv dX9_swap_23 rfl rfl (As := [.int 3]) rfl rfl hJ0.1.1 zs_386 (Nat.le_of_ble_eq_true rfl) ?_
        refine ZV.imp (k_2306 3 (by have := zt_3; omega) (by have := zt_3; omega) hN hJ0.1) ?_
        rintro _ ⟨x22, M19, rfl, h23, h24, hJ20, hq21⟩
        have hJ25 := zJ_trans hJ0 hJ20 (zSub_cons (fun _ _ h h' hk => zIR_a (by omega) (by omega)) zSub_nil)
        show ZW _ _ _ _ _ _ _ (26, [some (.ref 386), some (.int a0), some (.int a1), none], [.int x22], M19)
        refine w_ilt_t dX9_swap_26 (t := 33) rfl (by omega) ?_
        refine w_ic dX9_swap_33 zi_0 ?_
        refine w_en dX9_swap_34 rfl ?_
        exact ⟨_, _, rfl, (by have := zt_0; omega), (by have := zt_0; omega), hJ25, trivial⟩
      · skip
        refine w_ilt_f dX9_isBoy_1 (t := 21) rfl (by omega) ?_
        refine w_lo dX9_isBoy_4 rfl rfl rfl rfl ?_
        refine w_lo dX9_isBoy_5 rfl rfl rfl rfl ?_
        refine w_gf dX9_isBoy_6 rfl hJ0.1.1 zs_386 (zr_386_13 hJ0.1) ?_
        refine w_lo dX9_isBoy_9 rfl rfl rfl rfl ?_
        refine w_gf dX9_isBoy_10 rfl hJ0.1.1 zs_386 f10 ?_
        refine w_ia dX9_isBoy_13 hJ0.1.1 zs_388 (znat (by omega)) f13 ?_
        rcases zcut a1.toInt x16.toInt with h29 | h29
        · skip
          refine w_cge_f dX9_isBoy_14 (t := 21) rfl (by omega) ?_
          refine w_ic dX9_isBoy_17 zi_1 ?_
          refine w_gt dX9_isBoy_18 (t := 22) rfl ?_
          refine w_en dX9_isBoy_22 rfl ?_
          show ZW _ _ _ _ _ _ _ (13, [some (.ref 386), some (.int a0), some (.int a1), none], [.int 1], M0)
          refine w_ieq_f dX9_swap_13 (t := 21) rfl (by have := zt_1; omega) ?_
          refine w_lo dX9_swap_16 rfl rfl rfl rfl ?_
          refine w_lo dX9_swap_17 rfl rfl rfl rfl ?_
          rcases Int.decEq a0.toInt a1.toInt with h30 | h30
          · skip
            refine w_cne_t dX9_swap_18 (t := 35) rfl (by omega) ?_
            refine w_lo dX9_swap_35 rfl rfl rfl rfl ?_
            refine w_iv dX9_swap_36 rfl rfl (As := []) rfl rfl hJ0.1.1 zs_386 (Nat.le_of_ble_eq_true rfl) ?_
            refine ZV.imp (k_2377 hN hJ0.1) ?_
            rintro _ ⟨M31, rfl, hJ32, hq33⟩
            have hJ34 := zJ_trans hJ0 hJ32 (zSub_cons (fun _ _ h h' hk => zIR_s (zIR_a (by omega) (by omega))) (zSub_cons (fun _ _ h h' hk => zIR_s (zIR_s (zIR_e (by omega) (by omega) hk))) (zSub_cons (fun _ _ h h' hk => zIR_s (zIR_s (zIR_s (zIR_e (by omega) (by omega) hk)))) zSub_nil)))
            show ZW _ _ _ _ _ _ _ (39, [some (.ref 386), some (.int a0), some (.int a1), none], [], M31)
            refine w_lo dX9_swap_39 rfl rfl rfl rfl ?_
            refine w_gf dX9_swap_40 rfl hJ34.1.1 zs_386 (zr_386_50 hJ34.1) ?_
            refine w_lo dX9_swap_43 rfl rfl rfl rfl ?_
            refine w_iai dX9_swap_44 hJ34.1 zs_419 (by omega) (by omega) zu_419 ?_
            intro x38 f35 h36 h37
            refine w_lo (ml' := [some (.ref 386), some (.int a0), some (.int a1), some (.int x38)]) dX9_swap_45 rfl rfl rfl rfl ?_
            refine w_lo dX9_swap_46 rfl rfl rfl rfl ?_
            refine w_gf dX9_swap_47 rfl hJ34.1.1 zs_386 (zr_386_50 hJ34.1) ?_
            refine w_lo dX9_swap_50 rfl rfl rfl rfl ?_
            refine w_lo dX9_swap_51 rfl rfl rfl rfl ?_
            refine w_gf dX9_swap_52 rfl hJ34.1.1 zs_386 (zr_386_50 hJ34.1) ?_
            refine w_lo dX9_swap_55 rfl rfl rfl rfl ?_
            refine w_iai dX9_swap_56 hJ34.1 zs_419 (by omega) (by omega) zu_419 ?_
            intro x42 f39 h40 h41
            refine w_isi dX9_swap_57 hJ34 zs_419 (by omega) (by omega) zu_419 (by omega) (by omega) (zIR_s (zIR_a (by omega) (by omega))) ?_
            intro M43 hJ44 f45 hn46
            refine w_lo dX9_swap_58 rfl rfl rfl rfl ?_
            refine w_gf dX9_swap_59 rfl hJ44.1.1 zs_386 (zr_386_50 hJ44.1) ?_
            refine w_lo dX9_swap_62 rfl rfl rfl rfl ?_
            refine w_lo dX9_swap_63 rfl rfl rfl rfl ?_
            refine w_isi dX9_swap_64 hJ44 zs_419 (by omega) (by omega) zu_419 (by omega) (by omega) (zIR_s (zIR_a (by omega) (by omega))) ?_
            intro M47 hJ48 f49 hn50
            refine w_ic dX9_swap_65 zi_1 ?_
            refine w_en dX9_swap_66 rfl ?_
            exact ⟨_, _, rfl, (by have := zt_1; omega), (by have := zt_1; omega), hJ48, trivial⟩
          · skip
            refine w_cne_f dX9_swap_18 (t := 35) rfl (by omega) ?_
            refine w_lo dX9_swap_21 rfl rfl rfl rfl ?_
            refine w_ic dX9_swap_22 zi_3 ?_
            refine w_iv dX9_swap_23 rfl rfl (As := [.int 3]) rfl rfl hJ0.1.1 zs_386 (Nat.le_of_ble_eq_true rfl) ?_
            refine ZV.imp (k_2306 3 (by have := zt_3; omega) (by have := zt_3; omega) hN hJ0.1) ?_
            rintro _ ⟨x54, M51, rfl, h55, h56, hJ52, hq53⟩
            have hJ57 := zJ_trans hJ0 hJ52 (zSub_cons (fun _ _ h h' hk => zIR_a (by omega) (by omega)) zSub_nil)
            show ZW _ _ _ _ _ _ _ (26, [some (.ref 386), some (.int a0), some (.int a1), none], [.int x54], M51)
            refine w_ilt_t dX9_swap_26 (t := 33) rfl (by omega) ?_
            refine w_ic dX9_swap_33 zi_0 ?_
            refine w_en dX9_swap_34 rfl ?_
            exact ⟨_, _, rfl, (by have := zt_0; omega), (by have := zt_0; omega), hJ57, trivial⟩
        · skip
          refine w_cge_t dX9_isBoy_14 (t := 21) rfl (by omega) ?_
          refine w_ic dX9_isBoy_21 zi_0 ?_
          refine w_en dX9_isBoy_22 rfl ?_
          show ZW _ _ _ _ _ _ _ (13, [some (.ref 386), some (.int a0), some (.int a1), none], [.int 0], M0)
          refine w_ieq_t dX9_swap_13 (t := 21) rfl (by have := zt_0; omega) ?_
          refine w_lo dX9_swap_21 rfl rfl rfl rfl ?_
          refine w_ic dX9_swap_22 zi_3 ?_
          refine w_iv dX9_swap_23 rfl rfl (As := [.int 3]) rfl rfl hJ0.1.1 zs_386 (Nat.le_of_ble_eq_true rfl) ?_
          refine ZV.imp (k_2306 3 (by have := zt_3; omega) (by have := zt_3; omega) hN hJ0.1) ?_
          rintro _ ⟨x61, M58, rfl, h62, h63, hJ59, hq60⟩
          have hJ64 := zJ_trans hJ0 hJ59 (zSub_cons (fun _ _ h h' hk => zIR_a (by omega) (by omega)) zSub_nil)
          show ZW _ _ _ _ _ _ _ (26, [some (.ref 386), some (.int a0), some (.int a1), none], [.int x61], M58)
          refine w_ilt_t dX9_swap_26 (t := 33) rfl (by omega) ?_
          refine w_ic dX9_swap_33 zi_0 ?_
          refine w_en dX9_swap_34 rfl ?_
          exact ⟨_, _, rfl, (by have := zt_0; omega), (by have := zt_0; omega), hJ64, trivial⟩
    · skip
      refine w_cge_t dX9_isBoy_14 (t := 21) rfl (by omega) ?_
      refine w_ic dX9_isBoy_21 zi_0 ?_
      refine w_en dX9_isBoy_22 rfl ?_
      show ZW _ _ _ _ _ _ _ (5, [some (.ref 386), some (.int a0), some (.int a1), none], [.int 0], M0)
      refine w_ieq_t dX9_swap_5 (t := 21) rfl (by have := zt_0; omega) ?_
      refine w_lo dX9_swap_21 rfl rfl rfl rfl ?_
      refine w_ic dX9_swap_22 zi_3 ?_
      refine w_iv dX9_swap_23 rfl rfl (As := [.int 3]) rfl rfl hJ0.1.1 zs_386 (Nat.le_of_ble_eq_true rfl) ?_
      refine ZV.imp (k_2306 3 (by have := zt_3; omega) (by have := zt_3; omega) hN hJ0.1) ?_
      rintro _ ⟨x68, M65, rfl, h69, h70, hJ66, hq67⟩
      have hJ71 := zJ_trans hJ0 hJ66 (zSub_cons (fun _ _ h h' hk => zIR_a (by omega) (by omega)) zSub_nil)
      show ZW _ _ _ _ _ _ _ (26, [some (.ref 386), some (.int a0), some (.int a1), none], [.int x68], M65)
      refine w_ilt_t dX9_swap_26 (t := 33) rfl (by omega) ?_
      refine w_ic dX9_swap_33 zi_0 ?_
      refine w_en dX9_swap_34 rfl ?_
      exact ⟨_, _, rfl, (by have := zt_0; omega), (by have := zt_0; omega), hJ71, trivial⟩
set_option maxRecDepth 100000 in
theorem k_2396 {X : List Int32} {d N : Nat} {M0 : zM} (a0 : Int32) (hN : N ≤ 600) (hB0 : zB N M0) : ZV X (d + 2) 2396 [.ref 386, .int a0] M0 (zRI N [(415, 416, 1000), (386, 387, 66)] M0 (0) (1) (fun _ _ => True)) := by
  have hJ0 : zJ N [(415, 416, 1000), (386, 387, 66)] M0 M0 := zJ_refl hB0
  refine ZV.of (ini := false) rfl (Nat.le_of_ble_eq_true rfl) (by decide +kernel) ?_
  show ZW _ _ _ _ _ _ _ (0, [some (.ref 386), some (.int a0)], [], M0)
  refine w_lo dX9_seed_0 rfl rfl rfl rfl ?_
  rcases zcut a0.toInt (0 : Int) with h1 | h1
  · skip
    refine w_ige_f dX9_seed_1 (t := 18) rfl (by omega) ?_
    refine w_lo dX9_seed_4 rfl rfl rfl rfl ?_
    refine w_ic dX9_seed_5 zi_5 ?_
    refine w_iv dX9_seed_6 rfl rfl (As := [.int 5]) rfl rfl hJ0.1.1 zs_386 (Nat.le_of_ble_eq_true rfl) ?_
    refine ZV.imp (k_2306 5 (by have := zt_5; omega) (by have := zt_5; omega) hN hJ0.1) ?_
    rintro _ ⟨x5, M2, rfl, h6, h7, hJ3, hq4⟩
    have hJ8 := zJ_trans hJ0 hJ3 (zSub_cons (fun _ _ h h' hk => zIR_a (by omega) (by omega)) zSub_nil)
    show ZW _ _ _ _ _ _ _ (9, [some (.ref 386), some (.int a0)], [.int x5], M2)
    refine w_ilt_t dX9_seed_9 (t := 16) rfl (by omega) ?_
    refine w_ic dX9_seed_16 zi_0 ?_
    refine w_en dX9_seed_17 rfl ?_
    exact ⟨_, _, rfl, (by have := zt_0; omega), (by have := zt_0; omega), hJ8, trivial⟩
  · skip
    refine w_ige_t dX9_seed_1 (t := 18) rfl (by omega) ?_
    refine w_lo dX9_seed_18 rfl rfl rfl rfl ?_
    refine w_lo dX9_seed_19 rfl rfl rfl rfl ?_
    refine w_i2l dX9_seed_20 ?_
    intro y9 h10
    skip
    refine w_pfl dX9_seed_21 rfl hJ0 zs_386 (Nat.le_of_ble_eq_true rfl) zo_386_66 (by omega) (by omega) (zIR_s (zIR_k (by omega) (by omega))) rfl rfl rfl ?_
    intro M11 hJ12 f13 hn14
    refine w_ic dX9_seed_24 zi_1 ?_
    refine w_en dX9_seed_25 rfl ?_
    exact ⟨_, _, rfl, (by have := zt_1; omega), (by have := zt_1; omega), hJ12, trivial⟩
set_option maxRecDepth 100000 in
theorem k_2404 {X : List Int32} {d N : Nat} {M0 : zM} (a0 : Int32) (ha00 : (0 : Int) ≤ a0.toInt) (ha01 : a0.toInt ≤ 11) (a1 : Int32) (ha10 : (0 : Int) ≤ a1.toInt) (ha11 : a1.toInt ≤ 11) (hN : N ≤ 600) (hB0 : zB N M0) : ZV X (d + 1) 2404 [.ref 386, .int a0, .int a1] M0 (zRV N [(434, 435, 1000)] M0 (fun _ => True)) := by
  have hJ0 : zJ N [(434, 435, 1000)] M0 M0 := zJ_refl hB0
  refine ZV.of (ini := false) rfl (Nat.le_of_ble_eq_true rfl) (by decide +kernel) ?_
  show ZW _ _ _ _ _ _ _ (0, [some (.ref 386), some (.int a0), some (.int a1), none], [], M0)
  refine w_lo dX9_changes_0 rfl rfl rfl rfl ?_
  refine w_gf dX9_changes_1 rfl hJ0.1.1 zs_386 (zr_386_69 hJ0.1) ?_
  refine w_lo dX9_changes_4 rfl rfl rfl rfl ?_
  refine w_iai dX9_changes_5 hJ0.1 zs_434 (by omega) (by omega) zu_434 ?_
  intro x4 f1 h2 h3
  refine w_lo (ml' := [some (.ref 386), some (.int a0), some (.int a1), some (.int x4)]) dX9_changes_6 rfl rfl rfl rfl ?_
  refine w_lo dX9_changes_7 rfl rfl rfl rfl ?_
  refine w_gf dX9_changes_8 rfl hJ0.1.1 zs_386 (zr_386_69 hJ0.1) ?_
  refine w_lo dX9_changes_11 rfl rfl rfl rfl ?_
  refine w_lo dX9_changes_12 rfl rfl rfl rfl ?_
  refine w_gf dX9_changes_13 rfl hJ0.1.1 zs_386 (zr_386_69 hJ0.1) ?_
  refine w_lo dX9_changes_16 rfl rfl rfl rfl ?_
  refine w_iai dX9_changes_17 hJ0.1 zs_434 (by omega) (by omega) zu_434 ?_
  intro x8 f5 h6 h7
  refine w_isi dX9_changes_18 hJ0 zs_434 (by omega) (by omega) zu_434 (by omega) (by omega) (zIR_a (by omega) (by omega)) ?_
  intro M9 hJ10 f11 hn12
  refine w_lo dX9_changes_19 rfl rfl rfl rfl ?_
  refine w_gf dX9_changes_20 rfl hJ10.1.1 zs_386 (zr_386_69 hJ10.1) ?_
  refine w_lo dX9_changes_23 rfl rfl rfl rfl ?_
  refine w_lo dX9_changes_24 rfl rfl rfl rfl ?_
  refine w_isi dX9_changes_25 hJ10 zs_434 (by omega) (by omega) zu_434 (by omega) (by omega) (zIR_a (by omega) (by omega)) ?_
  intro M13 hJ14 f15 hn16
  refine w_en dX9_changes_26 rfl ?_
  exact ⟨_, rfl, hJ14, trivial⟩
set_option maxRecDepth 100000 in
theorem k_2410 {X : List Int32} {d N : Nat} {M0 : zM}  (hN : N ≤ 600) (hB0 : zB N M0) : ZV X (d + 2) 2410 [.ref 386] M0 (zRI N [(386, 387, 1), (415, 416, 1000), (433, 434, 1000), (386, 387, 68)] M0 (0) (1) (fun _ _ => True)) := by
  have hJ0 : zJ N [(386, 387, 1), (415, 416, 1000), (433, 434, 1000), (386, 387, 68)] M0 M0 := zJ_refl hB0
  refine ZV.of (ini := false) rfl (Nat.le_of_ble_eq_true rfl) (by decide +kernel) ?_
  have main : ∀ n : Nat,
      (∀ (M : zM) (u43_1 : Int32) (v43_2 : Int32), zJ N [(386, 387, 1), (415, 416, 1000), (433, 434, 1000), (386, 387, 68)] M0 M → ((0 : Int) ≤ v43_2.toInt) → (v43_2.toInt ≤ 12) → 3 * (12 - v43_2.toInt) + 1 < (n : Int) → ZW X (d + 1) 9 false (some .boolean) cX9_hear (zRI N [(386, 387, 1), (415, 416, 1000), (433, 434, 1000), (386, 387, 68)] M0 (0) (1) (fun _ _ => True)) (43, [some (.ref 386), some (.int u43_1), some (.int v43_2)], [], M)) := by
    intro n
    induction n with
    | zero =>
      exact (fun M u43_1 v43_2 hJ v43_20 v43_21 hn => absurd hn (by omega))
    | succ n ih =>
      have ih43 := ih
      · intro M u43_1 v43_2 hJ v43_20 v43_21 hn
        refine w_lo dX9_hear_43 rfl rfl rfl rfl ?_
        refine w_lo dX9_hear_44 rfl rfl rfl rfl ?_
        refine w_iv dX9_hear_45 rfl rfl (As := []) rfl rfl hJ.1.1 zs_386 (Nat.le_of_ble_eq_true rfl) ?_
        refine ZV.of (ini := false) rfl (Nat.le_of_ble_eq_true rfl) (by decide +kernel) ?_
        show ZW _ _ _ _ _ _ _ (0, [some (.ref 386)], [], M)
        refine w_lo dX9_many_0 rfl rfl rfl rfl ?_
        refine w_gf dX9_many_1 rfl hJ.1.1 zs_386 (zr_386_13 hJ.1) ?_
        refine w_lo dX9_many_4 rfl rfl rfl rfl ?_
        refine w_gfi dX9_many_5 rfl hJ.1 zs_386 (Nat.le_of_ble_eq_true rfl) zo_386_12 ?_
        intro x1 f2 h3 h4
        refine w_iai dX9_many_8 hJ.1 zs_388 (by omega) (by omega) zu_388 ?_
        intro x8 f5 h6 h7
        refine w_eni dX9_many_9 rfl rfl ?_
        show ZW _ _ _ _ _ _ _ (48, [some (.ref 386), some (.int u43_1), some (.int v43_2)], [.int x8, .int v43_2], M)
        rcases zcut v43_2.toInt x8.toInt with h9 | h9
        · skip
          refine w_cge_f dX9_hear_48 (t := 85) rfl (by omega) ?_
          refine w_lo dX9_hear_51 rfl rfl rfl rfl ?_
          refine w_gf dX9_hear_52 rfl hJ.1.1 zs_386 (zr_386_67 hJ.1) ?_
          refine w_lo dX9_hear_55 rfl rfl rfl rfl ?_
          refine w_lo dX9_hear_56 rfl rfl rfl rfl ?_
          refine w_gf dX9_hear_57 rfl hJ.1.1 zs_386 (zr_386_0 hJ.1) ?_
          refine w_ic dX9_hear_60 zi_2 ?_
          refine w_lo dX9_hear_61 rfl rfl rfl rfl ?_
          refine w_mulc dX9_hear_62 zt_2 (by have := zt_2; omega) ?_
          intro x10 h11
          have := zt_2
          refine w_iai dX9_hear_63 hJ.1 zs_387 (by omega) (by omega) zu_387 ?_
          intro x15 f12 h13 h14
          refine w_bi dX9_hear_64 (c := 8) (by decide) ?_
          refine w_puI dX9_hear_66 rfl rfl ?_
          intro x16
          refine w_lo dX9_hear_67 rfl rfl rfl rfl ?_
          refine w_gf dX9_hear_68 rfl hJ.1.1 zs_386 (zr_386_0 hJ.1) ?_
          refine w_ic dX9_hear_71 zi_2 ?_
          refine w_lo dX9_hear_72 rfl rfl rfl rfl ?_
          refine w_mulc dX9_hear_73 zt_2 (by have := zt_2; omega) ?_
          intro x17 h18
          have := zt_2
          refine w_ic dX9_hear_74 zi_1 ?_
          refine w_add dX9_hear_75 (by have := zt_1; omega) ?_
          intro x19 h20
          have := zt_1
          refine w_iai dX9_hear_76 hJ.1 zs_387 (by omega) (by omega) zu_387 ?_
          intro x24 f21 h22 h23
          refine w_puI dX9_hear_77 rfl rfl ?_
          intro x25
          refine w_isi dX9_hear_78 hJ zs_433 (by omega) (by omega) zu_433 (zbot _) (ztop _) (zIR_s (zIR_s (zIR_a (by omega) (by omega)))) ?_
          intro M26 hJ27 f28 hn29
          refine w_inc (kk := 2) dX9_hear_79 rfl (m := 1) (by decide) (by omega) ?_
          intro x30 h31
          refine ⟨_, rfl, ?_⟩
          show ZW _ _ _ _ _ _ _ (82, [some (.ref 386), some (.int u43_1), some (.int x30)], [], M26)
          refine w_gt dX9_hear_82 (t := 43) rfl ?_
          exact ih43 M26 u43_1 x30 hJ27 (by omega) (by omega) (by omega)
        · skip
          refine w_cge_t dX9_hear_48 (t := 85) rfl (by omega) ?_
          refine w_lo dX9_hear_85 rfl rfl rfl rfl ?_
          refine w_ic dX9_hear_86 zi_1 ?_
          refine w_pfi dX9_hear_87 rfl hJ zs_386 (Nat.le_of_ble_eq_true rfl) zo_386_68 (by have := zt_1; omega) (by have := zt_1; omega) (zIR_s (zIR_s (zIR_s (zIR_k (by omega) (by omega))))) rfl rfl rfl ?_
          intro M32 hJ33 f34 hn35
          refine w_ic dX9_hear_90 zi_1 ?_
          refine w_en dX9_hear_91 rfl ?_
          exact ⟨_, _, rfl, (by have := zt_1; omega), (by have := zt_1; omega), hJ33, trivial⟩
  have ih43 := main 48
  show ZW _ _ _ _ _ _ _ (0, [some (.ref 386), none, none], [], M0)
  refine w_lo dX9_hear_0 rfl rfl rfl rfl ?_
  refine w_gfi dX9_hear_1 rfl hJ0.1 zs_386 (Nat.le_of_ble_eq_true rfl) zo_386_1 ?_
  intro x36 f37 h38 h39
  refine w_lo (ml' := [some (.ref 386), some (.int x36), none]) dX9_hear_4 rfl rfl rfl rfl ?_
  refine w_lo dX9_hear_5 rfl rfl rfl rfl ?_
  refine w_ic dX9_hear_6 zi_0 ?_
  refine w_pfi dX9_hear_7 rfl hJ0 zs_386 (Nat.le_of_ble_eq_true rfl) zo_386_1 (by have := zt_0; omega) (by have := zt_0; omega) (zIR_k (by omega) (by omega)) rfl rfl rfl ?_
  intro M40 hJ41 f42 hn43
  refine w_lo dX9_hear_10 rfl rfl rfl rfl ?_
  refine w_iv dX9_hear_11 rfl rfl (As := []) rfl rfl hJ41.1.1 zs_386 (Nat.le_of_ble_eq_true rfl) ?_
  refine ZV.of (ini := false) rfl (Nat.le_of_ble_eq_true rfl) (by decide +kernel) ?_
  show ZW _ _ _ _ _ _ _ (0, [some (.ref 386)], [], M40)
  refine w_lo dX9_many_0 rfl rfl rfl rfl ?_
  refine w_gf dX9_many_1 rfl hJ41.1.1 zs_386 (zr_386_13 hJ41.1) ?_
  refine w_lo dX9_many_4 rfl rfl rfl rfl ?_
  refine w_gfi dX9_many_5 rfl hJ41.1 zs_386 (Nat.le_of_ble_eq_true rfl) zo_386_12 ?_
  intro x44 f45 h46 h47
  refine w_iai dX9_many_8 hJ41.1 zs_388 (by omega) (by omega) zu_388 ?_
  intro x51 f48 h49 h50
  refine w_eni dX9_many_9 rfl rfl ?_
  show ZW _ _ _ _ _ _ _ (14, [some (.ref 386), some (.int x36), none], [.int x51], M40)
  rcases Int.decEq x51.toInt (0 : Int) with h52 | h52
  · skip
    refine w_ieq_f dX9_hear_14 (t := 27) rfl (by omega) ?_
    refine w_lo dX9_hear_17 rfl rfl rfl rfl ?_
    refine w_ic dX9_hear_18 zi_2 ?_
    refine w_lo dX9_hear_19 rfl rfl rfl rfl ?_
    refine w_iv dX9_hear_20 rfl rfl (As := []) rfl rfl hJ41.1.1 zs_386 (Nat.le_of_ble_eq_true rfl) ?_
    refine ZV.of (ini := false) rfl (Nat.le_of_ble_eq_true rfl) (by decide +kernel) ?_
    show ZW _ _ _ _ _ _ _ (0, [some (.ref 386)], [], M40)
    refine w_lo dX9_many_0 rfl rfl rfl rfl ?_
    refine w_gf dX9_many_1 rfl hJ41.1.1 zs_386 (zr_386_13 hJ41.1) ?_
    refine w_lo dX9_many_4 rfl rfl rfl rfl ?_
    refine w_gf dX9_many_5 rfl hJ41.1.1 zs_386 f45 ?_
    refine w_ia dX9_many_8 hJ41.1.1 zs_388 (znat (by omega)) f48 ?_
    refine w_eni dX9_many_9 rfl rfl ?_
    show ZW _ _ _ _ _ _ _ (23, [some (.ref 386), some (.int x36), none], [.int x51, .int 2, .int x36], M40)
    refine w_mulc dX9_hear_23 zt_2 (by have := zt_2; omega) ?_
    intro x56 h57
    have := zt_2
    rcases Int.decEq x36.toInt x56.toInt with h58 | h58
    · skip
      refine w_ceq_f dX9_hear_24 (t := 41) rfl (by omega) ?_
      refine w_lo dX9_hear_27 rfl rfl rfl rfl ?_
      refine w_ic dX9_hear_28 zi_1 ?_
      refine w_iv dX9_hear_29 rfl rfl (As := [.int 1]) rfl rfl hJ41.1.1 zs_386 (Nat.le_of_ble_eq_true rfl) ?_
      refine ZV.imp (k_2306 1 (by have := zt_1; omega) (by have := zt_1; omega) hN hJ41.1) ?_
      rintro _ ⟨x62, M59, rfl, h63, h64, hJ60, hq61⟩
      have hJ65 := zJ_trans hJ41 hJ60 (zSub_cons (fun _ _ h h' hk => zIR_s (zIR_a (by omega) (by omega))) zSub_nil)
      show ZW _ _ _ _ _ _ _ (32, [some (.ref 386), some (.int x36), none], [.int x62], M59)
      refine w_ilt_t dX9_hear_32 (t := 39) rfl (by omega) ?_
      refine w_ic dX9_hear_39 zi_0 ?_
      refine w_en dX9_hear_40 rfl ?_
      exact ⟨_, _, rfl, (by have := zt_0; omega), (by have := zt_0; omega), hJ65, trivial⟩
    · skip
      refine w_ceq_t dX9_hear_24 (t := 41) rfl (by omega) ?_
      refine w_ic dX9_hear_41 zi_0 ?_
      refine w_lo (ml' := [some (.ref 386), some (.int x36), some (.int 0)]) dX9_hear_42 rfl rfl rfl rfl ?_
      exact ih43 M40 x36 0 hJ41 (by have := zt_0; omega) (by have := zt_0; omega) (by have := zt_0; omega)
  · skip
    refine w_ieq_t dX9_hear_14 (t := 27) rfl (by omega) ?_
    refine w_lo dX9_hear_27 rfl rfl rfl rfl ?_
    refine w_ic dX9_hear_28 zi_1 ?_
    refine w_iv dX9_hear_29 rfl rfl (As := [.int 1]) rfl rfl hJ41.1.1 zs_386 (Nat.le_of_ble_eq_true rfl) ?_
    refine ZV.imp (k_2306 1 (by have := zt_1; omega) (by have := zt_1; omega) hN hJ41.1) ?_
    rintro _ ⟨x69, M66, rfl, h70, h71, hJ67, hq68⟩
    have hJ72 := zJ_trans hJ41 hJ67 (zSub_cons (fun _ _ h h' hk => zIR_s (zIR_a (by omega) (by omega))) zSub_nil)
    show ZW _ _ _ _ _ _ _ (32, [some (.ref 386), some (.int x36), none], [.int x69], M66)
    refine w_ilt_t dX9_hear_32 (t := 39) rfl (by omega) ?_
    refine w_ic dX9_hear_39 zi_0 ?_
    refine w_en dX9_hear_40 rfl ?_
    exact ⟨_, _, rfl, (by have := zt_0; omega), (by have := zt_0; omega), hJ72, trivial⟩
set_option maxRecDepth 100000 in
theorem k_2416 {X : List Int32} {d N : Nat} {M0 : zM} (a0 : Int32) (ha00 : (0 : Int) ≤ a0.toInt) (ha01 : a0.toInt ≤ 11) (hN : N ≤ 600) (hB0 : zB N M0) : ZV X (d + 2) 2416 [.ref 386, .int a0] M0 (zRI N [] M0 (-1) (10) (fun _ _ => True)) := by
  have hJ0 : zJ N [] M0 M0 := zJ_refl hB0
  refine ZV.of (ini := false) rfl (Nat.le_of_ble_eq_true rfl) (by decide +kernel) ?_
  have main : ∀ n : Nat,
      (∀ (M : zM) (u2_1 : Int32) (v2_2 : Int32), zJ N [] M0 M → ((0 : Int) ≤ v2_2.toInt) → (v2_2.toInt ≤ 11) → 3 * (11 - v2_2.toInt) + 1 < (n : Int) → ZW X (d + 1) 9 false (some .int) cX9_nextTied (zRI N [] M0 (-1) (10) (fun _ _ => True)) (2, [some (.ref 386), some (.int u2_1), some (.int v2_2)], [], M)) := by
    intro n
    induction n with
    | zero =>
      exact (fun M u2_1 v2_2 hJ v2_20 v2_21 hn => absurd hn (by omega))
    | succ n ih =>
      have ih2 := ih
      · intro M u2_1 v2_2 hJ v2_20 v2_21 hn
        refine w_lo dX9_nextTied_2 rfl rfl rfl rfl ?_
        refine w_lo dX9_nextTied_3 rfl rfl rfl rfl ?_
        refine w_iv dX9_nextTied_4 rfl rfl (As := []) rfl rfl hJ.1.1 zs_386 (Nat.le_of_ble_eq_true rfl) ?_
        refine ZV.of (ini := false) rfl (Nat.le_of_ble_eq_true rfl) (by decide +kernel) ?_
        show ZW _ _ _ _ _ _ _ (0, [some (.ref 386)], [], M)
        refine w_lo dX9_many_0 rfl rfl rfl rfl ?_
        refine w_gf dX9_many_1 rfl hJ.1.1 zs_386 (zr_386_13 hJ.1) ?_
        refine w_lo dX9_many_4 rfl rfl rfl rfl ?_
        refine w_gfi dX9_many_5 rfl hJ.1 zs_386 (Nat.le_of_ble_eq_true rfl) zo_386_12 ?_
        intro x1 f2 h3 h4
        refine w_iai dX9_many_8 hJ.1 zs_388 (by omega) (by omega) zu_388 ?_
        intro x8 f5 h6 h7
        refine w_eni dX9_many_9 rfl rfl ?_
        show ZW _ _ _ _ _ _ _ (7, [some (.ref 386), some (.int u2_1), some (.int v2_2)], [.int x8, .int v2_2], M)
        refine w_ic dX9_nextTied_7 zi_1 ?_
        refine w_sub dX9_nextTied_8 (by have := zt_1; omega) ?_
        intro x9 h10
        have := zt_1
        rcases zcut v2_2.toInt x9.toInt with h11 | h11
        · skip
          refine w_cge_f dX9_nextTied_9 (t := 27) rfl (by omega) ?_
          refine w_lo dX9_nextTied_12 rfl rfl rfl rfl ?_
          refine w_gf dX9_nextTied_13 rfl hJ.1.1 zs_386 (zr_386_60 hJ.1) ?_
          refine w_lo dX9_nextTied_16 rfl rfl rfl rfl ?_
          refine w_iai dX9_nextTied_17 hJ.1 zs_429 (by omega) (by omega) zu_429 ?_
          intro x15 f12 h13 h14
          rcases Int.decEq x15.toInt (0 : Int) with h16 | h16
          · skip
            refine w_ine_t dX9_nextTied_18 (t := 27) rfl (by omega) ?_
            refine w_lo dX9_nextTied_27 rfl rfl rfl rfl ?_
            refine w_lo dX9_nextTied_28 rfl rfl rfl rfl ?_
            refine w_iv dX9_nextTied_29 rfl rfl (As := []) rfl rfl hJ.1.1 zs_386 (Nat.le_of_ble_eq_true rfl) ?_
            refine ZV.of (ini := false) rfl (Nat.le_of_ble_eq_true rfl) (by decide +kernel) ?_
            show ZW _ _ _ _ _ _ _ (0, [some (.ref 386)], [], M)
            refine w_lo dX9_many_0 rfl rfl rfl rfl ?_
            refine w_gf dX9_many_1 rfl hJ.1.1 zs_386 (zr_386_13 hJ.1) ?_
            refine w_lo dX9_many_4 rfl rfl rfl rfl ?_
            refine w_gf dX9_many_5 rfl hJ.1.1 zs_386 f2 ?_
            refine w_ia dX9_many_8 hJ.1.1 zs_388 (znat (by omega)) f5 ?_
            refine w_eni dX9_many_9 rfl rfl ?_
            show ZW _ _ _ _ _ _ _ (32, [some (.ref 386), some (.int u2_1), some (.int v2_2)], [.int x8, .int v2_2], M)
            refine w_ic dX9_nextTied_32 zi_1 ?_
            refine w_sub dX9_nextTied_33 (by have := zt_1; omega) ?_
            intro x20 h21
            have := zt_1
            rcases zcut v2_2.toInt x20.toInt with h22 | h22
            · skip
              refine w_cge_f dX9_nextTied_34 (t := 41) rfl (by omega) ?_
              refine w_lo dX9_nextTied_37 rfl rfl rfl rfl ?_
              refine w_gt dX9_nextTied_38 (t := 42) rfl ?_
              refine w_eni dX9_nextTied_42 rfl rfl ?_
              exact ⟨_, _, rfl, (by omega), (by omega), hJ, trivial⟩
            · skip
              refine w_cge_t dX9_nextTied_34 (t := 41) rfl (by omega) ?_
              refine w_ic dX9_nextTied_41 zi_m1 ?_
              refine w_en dX9_nextTied_42 rfl ?_
              exact ⟨_, _, rfl, (by have := zt_m1; omega), (by have := zt_m1; omega), hJ, trivial⟩
          · skip
            refine w_ine_f dX9_nextTied_18 (t := 27) rfl (by omega) ?_
            refine w_inc (kk := 2) dX9_nextTied_21 rfl (m := 1) (by decide) (by omega) ?_
            intro x23 h24
            refine ⟨_, rfl, ?_⟩
            show ZW _ _ _ _ _ _ _ (24, [some (.ref 386), some (.int u2_1), some (.int x23)], [], M)
            refine w_gt dX9_nextTied_24 (t := 2) rfl ?_
            exact ih2 M u2_1 x23 hJ (by omega) (by omega) (by omega)
        · skip
          refine w_cge_t dX9_nextTied_9 (t := 27) rfl (by omega) ?_
          refine w_lo dX9_nextTied_27 rfl rfl rfl rfl ?_
          refine w_lo dX9_nextTied_28 rfl rfl rfl rfl ?_
          refine w_iv dX9_nextTied_29 rfl rfl (As := []) rfl rfl hJ.1.1 zs_386 (Nat.le_of_ble_eq_true rfl) ?_
          refine ZV.of (ini := false) rfl (Nat.le_of_ble_eq_true rfl) (by decide +kernel) ?_
          show ZW _ _ _ _ _ _ _ (0, [some (.ref 386)], [], M)
          refine w_lo dX9_many_0 rfl rfl rfl rfl ?_
          refine w_gf dX9_many_1 rfl hJ.1.1 zs_386 (zr_386_13 hJ.1) ?_
          refine w_lo dX9_many_4 rfl rfl rfl rfl ?_
          refine w_gf dX9_many_5 rfl hJ.1.1 zs_386 f2 ?_
          refine w_ia dX9_many_8 hJ.1.1 zs_388 (znat (by omega)) f5 ?_
          refine w_eni dX9_many_9 rfl rfl ?_
          show ZW _ _ _ _ _ _ _ (32, [some (.ref 386), some (.int u2_1), some (.int v2_2)], [.int x8, .int v2_2], M)
          refine w_ic dX9_nextTied_32 zi_1 ?_
          refine w_sub dX9_nextTied_33 (by have := zt_1; omega) ?_
          intro x28 h29
          have := zt_1
          rcases zcut v2_2.toInt x28.toInt with h30 | h30
          · skip
            refine w_cge_f dX9_nextTied_34 (t := 41) rfl (by omega) ?_
            refine w_lo dX9_nextTied_37 rfl rfl rfl rfl ?_
            refine w_gt dX9_nextTied_38 (t := 42) rfl ?_
            refine w_eni dX9_nextTied_42 rfl rfl ?_
            exact ⟨_, _, rfl, (by omega), (by omega), hJ, trivial⟩
          · skip
            refine w_cge_t dX9_nextTied_34 (t := 41) rfl (by omega) ?_
            refine w_ic dX9_nextTied_41 zi_m1 ?_
            refine w_en dX9_nextTied_42 rfl ?_
            exact ⟨_, _, rfl, (by have := zt_m1; omega), (by have := zt_m1; omega), hJ, trivial⟩
  have ih2 := main 45
  show ZW _ _ _ _ _ _ _ (0, [some (.ref 386), some (.int a0), none], [], M0)
  refine w_lo dX9_nextTied_0 rfl rfl rfl rfl ?_
  refine w_lo (ml' := [some (.ref 386), some (.int a0), some (.int a0)]) dX9_nextTied_1 rfl rfl rfl rfl ?_
  exact ih2 M0 a0 a0 hJ0 (by omega) (by omega) (by omega)
set_option maxRecDepth 100000 in
theorem k_2415 {X : List Int32} {d N : Nat} {M0 : zM} (a0 : Int32) (ha00 : (0 : Int) ≤ a0.toInt) (ha01 : a0.toInt ≤ 4) (hN : N ≤ 600) (hB0 : zB N M0) : ZV X (d + 3) 2415 [.ref 386, .int a0] M0 (zRI N [(437, 438, 1000)] M0 (0) (1) (fun _ _ => True)) := by
  have hJ0 : zJ N [(437, 438, 1000)] M0 M0 := zJ_refl hB0
  refine ZV.of (ini := false) rfl (Nat.le_of_ble_eq_true rfl) (by decide +kernel) ?_
  have main : ∀ n : Nat,
      (∀ (M : zM) (v4_1 : Int32) (v4_2 : Int32) (v4_3 : Int32), zJ N [(437, 438, 1000)] M0 M → ((0 : Int) ≤ v4_1.toInt) → (v4_1.toInt ≤ 4) → ((0 : Int) ≤ v4_2.toInt) → (v4_2.toInt ≤ 11) → ((0 : Int) ≤ v4_3.toInt) → (v4_3.toInt ≤ 4) → 3 * (4 - v4_3.toInt) + 1 < (n : Int) → ZW X (d + 2) 9 false (some .boolean) cX9_firstCuts (zRI N [(437, 438, 1000)] M0 (0) (1) (fun _ _ => True)) (4, [some (.ref 386), some (.int v4_1), some (.int v4_2), some (.int v4_3)], [], M)) := by
    intro n
    induction n with
    | zero =>
      exact (fun M v4_1 v4_2 v4_3 hJ v4_10 v4_11 v4_20 v4_21 v4_30 v4_31 hn => absurd hn (by omega))
    | succ n ih =>
      have ih4 := ih
      · intro M v4_1 v4_2 v4_3 hJ v4_10 v4_11 v4_20 v4_21 v4_30 v4_31 hn
        refine w_lo dX9_firstCuts_4 rfl rfl rfl rfl ?_
        refine w_lo dX9_firstCuts_5 rfl rfl rfl rfl ?_
        rcases zcut v4_3.toInt v4_1.toInt with h1 | h1
        · skip
          refine w_cge_f dX9_firstCuts_6 (t := 47) rfl (by omega) ?_
          refine w_lo dX9_firstCuts_9 rfl rfl rfl rfl ?_
          refine w_gf dX9_firstCuts_10 rfl hJ.1.1 zs_386 (zr_386_78 hJ.1) ?_
          refine w_lo dX9_firstCuts_13 rfl rfl rfl rfl ?_
          refine w_lo dX9_firstCuts_14 rfl rfl rfl rfl ?_
          refine w_lo dX9_firstCuts_15 rfl rfl rfl rfl ?_
          refine w_iv dX9_firstCuts_16 rfl rfl (As := [.int v4_2]) rfl rfl hJ.1.1 zs_386 (Nat.le_of_ble_eq_true rfl) ?_
          refine ZV.imp (k_2416 v4_2 (by omega) (by omega) hN hJ.1) ?_
          rintro _ ⟨x5, M2, rfl, h6, h7, hJ3, hq4⟩
          have hJ8 := zJ_trans hJ hJ3 zSub_nil
          show ZW _ _ _ _ _ _ _ (19, [some (.ref 386), some (.int v4_1), some (.int v4_2), some (.int v4_3)], [.int x5, .int v4_3, .ref 437], M2)
          refine w_isi dX9_firstCuts_19 hJ8 zs_437 (by omega) (by omega) zu_437 (by omega) (by omega) (zIR_a (by omega) (by omega)) ?_
          intro M9 hJ10 f11 hn12
          refine w_lo dX9_firstCuts_20 rfl rfl rfl rfl ?_
          refine w_gf dX9_firstCuts_21 rfl hJ10.1.1 zs_386 (zr_386_78 hJ10.1) ?_
          refine w_lo dX9_firstCuts_24 rfl rfl rfl rfl ?_
          refine w_ia dX9_firstCuts_25 hJ10.1.1 zs_437 (znat (by omega)) f11 ?_
          refine w_ic dX9_firstCuts_26 zi_m1 ?_
          rcases Int.decEq x5.toInt (-1 : Int) with h16 | h16
          · skip
            refine w_cne_t dX9_firstCuts_27 (t := 32) rfl (by have := zt_m1; omega) ?_
            refine w_lo dX9_firstCuts_32 rfl rfl rfl rfl ?_
            refine w_gf dX9_firstCuts_33 rfl hJ10.1.1 zs_386 (zr_386_78 hJ10.1) ?_
            refine w_lo dX9_firstCuts_36 rfl rfl rfl rfl ?_
            refine w_ia dX9_firstCuts_37 hJ10.1.1 zs_437 (znat (by omega)) f11 ?_
            refine w_ic dX9_firstCuts_38 zi_1 ?_
            refine w_add dX9_firstCuts_39 (by have := zt_1; omega) ?_
            intro x20 h21
            have := zt_1
            refine w_lo (ml' := [some (.ref 386), some (.int v4_1), some (.int x20), some (.int v4_3)]) dX9_firstCuts_40 rfl rfl rfl rfl ?_
            refine w_inc (kk := 3) dX9_firstCuts_41 rfl (m := 1) (by decide) (by omega) ?_
            intro x22 h23
            refine ⟨_, rfl, ?_⟩
            show ZW _ _ _ _ _ _ _ (44, [some (.ref 386), some (.int v4_1), some (.int x20), some (.int x22)], [], M9)
            refine w_gt dX9_firstCuts_44 (t := 4) rfl ?_
            exact ih4 M9 v4_1 x20 x22 hJ10 (by omega) (by omega) (by omega) (by omega) (by omega) (by omega) (by omega)
          · skip
            refine w_cne_f dX9_firstCuts_27 (t := 32) rfl (by have := zt_m1; omega) ?_
            refine w_ic dX9_firstCuts_30 zi_0 ?_
            refine w_en dX9_firstCuts_31 rfl ?_
            exact ⟨_, _, rfl, (by have := zt_0; omega), (by have := zt_0; omega), hJ10, trivial⟩
        · skip
          refine w_cge_t dX9_firstCuts_6 (t := 47) rfl (by omega) ?_
          refine w_ic dX9_firstCuts_47 zi_1 ?_
          refine w_en dX9_firstCuts_48 rfl ?_
          exact ⟨_, _, rfl, (by have := zt_1; omega), (by have := zt_1; omega), hJ, trivial⟩
  have ih4 := main 24
  show ZW _ _ _ _ _ _ _ (0, [some (.ref 386), some (.int a0), none, none], [], M0)
  refine w_ic dX9_firstCuts_0 zi_0 ?_
  refine w_lo (ml' := [some (.ref 386), some (.int a0), some (.int 0), none]) dX9_firstCuts_1 rfl rfl rfl rfl ?_
  refine w_ic dX9_firstCuts_2 zi_0 ?_
  refine w_lo (ml' := [some (.ref 386), some (.int a0), some (.int 0), some (.int 0)]) dX9_firstCuts_3 rfl rfl rfl rfl ?_
  exact ih4 M0 a0 0 0 hJ0 (by omega) (by omega) (by have := zt_0; omega) (by have := zt_0; omega) (by have := zt_0; omega) (by have := zt_0; omega) (by have := zt_0; have := zt_0; omega)
set_option maxRecDepth 100000 in
theorem k_2418 {X : List Int32} {d N : Nat} {M0 : zM} (a0 : Int32) (ha00 : (0 : Int) ≤ a0.toInt) (ha01 : a0.toInt ≤ 10) (a1 : Int32) (ha10 : (0 : Int) ≤ a1.toInt) (ha11 : a1.toInt ≤ 4) (hN : N ≤ 600) (hB0 : zB N M0) : ZV X (d + 1) 2418 [.ref 386, .int a0, .int a1] M0 (zRI N [] M0 (0) (1) (fun _ _ => True)) := by
  have hJ0 : zJ N [] M0 M0 := zJ_refl hB0
  refine ZV.of (ini := false) rfl (Nat.le_of_ble_eq_true rfl) (by decide +kernel) ?_
  have main : ∀ n : Nat,
      (∀ (M : zM) (v13_1 : Int32) (v13_2 : Int32) (v13_3 : Int32), zJ N [] M0 M → ((0 : Int) ≤ v13_1.toInt) → (v13_1.toInt ≤ 10) → ((0 : Int) ≤ v13_2.toInt) → (v13_2.toInt ≤ 4) → ((0 : Int) ≤ v13_3.toInt) → (v13_3.toInt ≤ 4) → 3 * (4 - v13_3.toInt) + 1 < (n : Int) → ZW X (d + 0) 9 false (some .boolean) cX9_isCut (zRI N [] M0 (0) (1) (fun _ _ => True)) (13, [some (.ref 386), some (.int v13_1), some (.int v13_2), some (.int v13_3)], [], M)) := by
    intro n
    induction n with
    | zero =>
      exact (fun M v13_1 v13_2 v13_3 hJ v13_10 v13_11 v13_20 v13_21 v13_30 v13_31 hn => absurd hn (by omega))
    | succ n ih =>
      have ih13 := ih
      · intro M v13_1 v13_2 v13_3 hJ v13_10 v13_11 v13_20 v13_21 v13_30 v13_31 hn
        refine w_lo dX9_isCut_13 rfl rfl rfl rfl ?_
        refine w_lo dX9_isCut_14 rfl rfl rfl rfl ?_
        rcases zcut v13_3.toInt v13_2.toInt with h1 | h1
        · skip
          refine w_cge_f dX9_isCut_15 (t := 36) rfl (by omega) ?_
          refine w_lo dX9_isCut_18 rfl rfl rfl rfl ?_
          refine w_gf dX9_isCut_19 rfl hJ.1.1 zs_386 (zr_386_78 hJ.1) ?_
          refine w_lo dX9_isCut_22 rfl rfl rfl rfl ?_
          refine w_iai dX9_isCut_23 hJ.1 zs_437 (by omega) (by omega) zu_437 ?_
          intro x5 f2 h3 h4
          refine w_lo dX9_isCut_24 rfl rfl rfl rfl ?_
          rcases Int.decEq x5.toInt v13_1.toInt with h6 | h6
          · skip
            refine w_cne_t dX9_isCut_25 (t := 30) rfl (by omega) ?_
            refine w_inc (kk := 3) dX9_isCut_30 rfl (m := 1) (by decide) (by omega) ?_
            intro x7 h8
            refine ⟨_, rfl, ?_⟩
            show ZW _ _ _ _ _ _ _ (33, [some (.ref 386), some (.int v13_1), some (.int v13_2), some (.int x7)], [], M)
            refine w_gt dX9_isCut_33 (t := 13) rfl ?_
            exact ih13 M v13_1 v13_2 x7 hJ (by omega) (by omega) (by omega) (by omega) (by omega) (by omega) (by omega)
          · skip
            refine w_cne_f dX9_isCut_25 (t := 30) rfl (by omega) ?_
            refine w_ic dX9_isCut_28 zi_1 ?_
            refine w_en dX9_isCut_29 rfl ?_
            exact ⟨_, _, rfl, (by have := zt_1; omega), (by have := zt_1; omega), hJ, trivial⟩
        · skip
          refine w_cge_t dX9_isCut_15 (t := 36) rfl (by omega) ?_
          refine w_ic dX9_isCut_36 zi_0 ?_
          refine w_en dX9_isCut_37 rfl ?_
          exact ⟨_, _, rfl, (by have := zt_0; omega), (by have := zt_0; omega), hJ, trivial⟩
  have ih13 := main 24
  show ZW _ _ _ _ _ _ _ (0, [some (.ref 386), some (.int a0), some (.int a1), none], [], M0)
  refine w_lo dX9_isCut_0 rfl rfl rfl rfl ?_
  refine w_gf dX9_isCut_1 rfl hJ0.1.1 zs_386 (zr_386_60 hJ0.1) ?_
  refine w_lo dX9_isCut_4 rfl rfl rfl rfl ?_
  refine w_iai dX9_isCut_5 hJ0.1 zs_429 (by omega) (by omega) zu_429 ?_
  intro x12 f9 h10 h11
  rcases Int.decEq x12.toInt (0 : Int) with h13 | h13
  · skip
    refine w_ine_t dX9_isCut_6 (t := 11) rfl (by omega) ?_
    refine w_ic dX9_isCut_11 zi_0 ?_
    refine w_lo (ml' := [some (.ref 386), some (.int a0), some (.int a1), some (.int 0)]) dX9_isCut_12 rfl rfl rfl rfl ?_
    exact ih13 M0 a0 a1 0 hJ0 (by omega) (by omega) (by omega) (by omega) (by have := zt_0; omega) (by have := zt_0; omega) (by have := zt_0; omega)
  · skip
    refine w_ine_f dX9_isCut_6 (t := 11) rfl (by omega) ?_
    refine w_ic dX9_isCut_9 zi_1 ?_
    refine w_en dX9_isCut_10 rfl ?_
    exact ⟨_, _, rfl, (by have := zt_1; omega), (by have := zt_1; omega), hJ0, trivial⟩
set_option maxRecDepth 100000 in
theorem k_2417 {X : List Int32} {d N : Nat} {M0 : zM} (a0 : Int32) (ha00 : (0 : Int) ≤ a0.toInt) (ha01 : a0.toInt ≤ 4) (hN : N ≤ 600) (hB0 : zB N M0) : ZV X (d + 2) 2417 [.ref 386, .int a0] M0 (zRI N [] M0 (0) (2147483647) (fun _ _ => True)) := by
  have hJ0 : zJ N [] M0 M0 := zJ_refl hB0
  refine ZV.of (ini := false) rfl (Nat.le_of_ble_eq_true rfl) (by decide +kernel) ?_
  have main : ∀ n : Nat,
      (∀ (M : zM) (v7_1 : Int32) (v7_2 : Int32) (v7_3 : Int32) (v7_4 : Int32), zJ N [] M0 M → ((0 : Int) ≤ v7_1.toInt) → (v7_1.toInt ≤ 4) → ((0 : Int) ≤ v7_2.toInt) → (v7_2.toInt ≤ 2147483647) → ((-2147483648 : Int) ≤ v7_3.toInt) → (v7_3.toInt ≤ 2147483647) → ((0 : Int) ≤ v7_4.toInt) → (v7_4.toInt ≤ 12) → 5 * (12 - v7_4.toInt) + 3 < (n : Int) → ZW X (d + 1) 9 false (some .int) cX9_heaviest (zRI N [] M0 (0) (2147483647) (fun _ _ => True)) (7, [some (.ref 386), some (.int v7_1), some (.int v7_2), some (.int v7_3), some (.int v7_4)], [], M)) ∧
      (∀ (M : zM) (v37_1 : Int32) (v37_2 : Int32) (v37_3 : Int32) (v37_4 : Int32), zJ N [] M0 M → ((0 : Int) ≤ v37_1.toInt) → (v37_1.toInt ≤ 4) → ((0 : Int) ≤ v37_2.toInt) → (v37_2.toInt ≤ 2147483647) → ((-2147483648 : Int) ≤ v37_3.toInt) → (v37_3.toInt ≤ 2147483647) → ((0 : Int) ≤ v37_4.toInt) → (v37_4.toInt ≤ 11) → 5 * (12 - v37_4.toInt) + 2 < (n : Int) → ZW X (d + 1) 9 false (some .int) cX9_heaviest (zRI N [] M0 (0) (2147483647) (fun _ _ => True)) (37, [some (.ref 386), some (.int v37_1), some (.int v37_2), some (.int v37_3), some (.int v37_4)], [], M)) ∧
      (∀ (M : zM) (v38_1 : Int32) (v38_2 : Int32) (u38_3 : Int32) (v38_4 : Int32) (s38_0 : Int32), zJ N [] M0 M → ((0 : Int) ≤ v38_1.toInt) → (v38_1.toInt ≤ 4) → ((0 : Int) ≤ v38_2.toInt) → (v38_2.toInt ≤ 2147483647) → ((0 : Int) ≤ v38_4.toInt) → (v38_4.toInt ≤ 11) → ((-2147483648 : Int) ≤ s38_0.toInt) → (s38_0.toInt ≤ 2147483647) → 5 * (12 - v38_4.toInt) + 1 < (n : Int) → ZW X (d + 1) 9 false (some .int) cX9_heaviest (zRI N [] M0 (0) (2147483647) (fun _ _ => True)) (38, [some (.ref 386), some (.int v38_1), some (.int v38_2), some (.int u38_3), some (.int v38_4)], [.int s38_0], M)) := by
    intro n
    induction n with
    | zero =>
      exact ⟨(fun M v7_1 v7_2 v7_3 v7_4 hJ v7_10 v7_11 v7_20 v7_21 v7_30 v7_31 v7_40 v7_41 hn => absurd hn (by omega)), (fun M v37_1 v37_2 v37_3 v37_4 hJ v37_10 v37_11 v37_20 v37_21 v37_30 v37_31 v37_40 v37_41 hn => absurd hn (by omega)), (fun M v38_1 v38_2 u38_3 v38_4 s38_0 hJ v38_10 v38_11 v38_20 v38_21 v38_40 v38_41 s38_00 s38_01 hn => absurd hn (by omega))⟩
    | succ n ih =>
      obtain ⟨ih7, ih37, ih38⟩ := ih
      refine ⟨?_, ?_, ?_⟩
      · intro M v7_1 v7_2 v7_3 v7_4 hJ v7_10 v7_11 v7_20 v7_21 v7_30 v7_31 v7_40 v7_41 hn
        refine w_lo dX9_heaviest_7 rfl rfl rfl rfl ?_
        refine w_lo dX9_heaviest_9 rfl rfl rfl rfl ?_
        refine w_iv dX9_heaviest_10 rfl rfl (As := []) rfl rfl hJ.1.1 zs_386 (Nat.le_of_ble_eq_true rfl) ?_
        refine ZV.of (ini := false) rfl (Nat.le_of_ble_eq_true rfl) (by decide +kernel) ?_
        show ZW _ _ _ _ _ _ _ (0, [some (.ref 386)], [], M)
        refine w_lo dX9_many_0 rfl rfl rfl rfl ?_
        refine w_gf dX9_many_1 rfl hJ.1.1 zs_386 (zr_386_13 hJ.1) ?_
        refine w_lo dX9_many_4 rfl rfl rfl rfl ?_
        refine w_gfi dX9_many_5 rfl hJ.1 zs_386 (Nat.le_of_ble_eq_true rfl) zo_386_12 ?_
        intro x1 f2 h3 h4
        refine w_iai dX9_many_8 hJ.1 zs_388 (by omega) (by omega) zu_388 ?_
        intro x8 f5 h6 h7
        refine w_eni dX9_many_9 rfl rfl ?_
        show ZW _ _ _ _ _ _ _ (13, [some (.ref 386), some (.int v7_1), some (.int v7_2), some (.int v7_3), some (.int v7_4)], [.int x8, .int v7_4], M)
        rcases zcut v7_4.toInt x8.toInt with h9 | h9
        · skip
          refine w_cge_f dX9_heaviest_13 (t := 79) rfl (by omega) ?_
          refine w_lo dX9_heaviest_16 rfl rfl rfl rfl ?_
          rcases zcut (0 : Int) v7_4.toInt with h10 | h10
          · skip
            refine w_ile_f dX9_heaviest_18 (t := 37) rfl (by omega) ?_
            refine w_lo dX9_heaviest_21 rfl rfl rfl rfl ?_
            refine w_lo dX9_heaviest_22 rfl rfl rfl rfl ?_
            refine w_ic dX9_heaviest_24 zi_1 ?_
            refine w_sub dX9_heaviest_25 (by have := zt_1; omega) ?_
            intro x11 h12
            have := zt_1
            refine w_lo dX9_heaviest_26 rfl rfl rfl rfl ?_
            refine w_iv dX9_heaviest_27 rfl rfl (As := [.int x11, .int v7_1]) rfl rfl hJ.1.1 zs_386 (Nat.le_of_ble_eq_true rfl) ?_
            refine ZV.imp (k_2418 x11 (by omega) (by omega) v7_1 (by omega) (by omega) hN hJ.1) ?_
            rintro _ ⟨x16, M13, rfl, h17, h18, hJ14, hq15⟩
            have hJ19 := zJ_trans hJ hJ14 zSub_nil
            show ZW _ _ _ _ _ _ _ (30, [some (.ref 386), some (.int v7_1), some (.int v7_2), some (.int v7_3), some (.int v7_4)], [.int x16], M13)
            rcases Int.decEq x16.toInt (0 : Int) with h20 | h20
            · skip
              refine w_ieq_f dX9_heaviest_30 (t := 37) rfl (by omega) ?_
              refine w_ic dX9_heaviest_33 zi_0 ?_
              refine w_gt dX9_heaviest_34 (t := 38) rfl ?_
              exact ih38 M13 v7_1 v7_2 v7_3 v7_4 0 hJ19 (by omega) (by omega) (by omega) (ztop _) (by omega) (by omega) (zbot _) (ztop _) (by have := zt_0; omega)
            · skip
              refine w_ieq_t dX9_heaviest_30 (t := 37) rfl (by omega) ?_
              exact ih37 M13 v7_1 v7_2 v7_3 v7_4 hJ19 (by omega) (by omega) (by omega) (ztop _) (zbot _) (ztop _) (by omega) (by omega) (by omega)
          · skip
            refine w_ile_t dX9_heaviest_18 (t := 37) rfl (by omega) ?_
            exact ih37 M v7_1 v7_2 v7_3 v7_4 hJ (by omega) (by omega) (by omega) (ztop _) (zbot _) (ztop _) (by omega) (by omega) (by omega)
        · skip
          refine w_cge_t dX9_heaviest_13 (t := 79) rfl (by omega) ?_
          refine w_lo dX9_heaviest_79 rfl rfl rfl rfl ?_
          refine w_eni dX9_heaviest_80 rfl rfl ?_
          exact ⟨_, _, rfl, (by omega), (ztop _), hJ, trivial⟩
      · intro M v37_1 v37_2 v37_3 v37_4 hJ v37_10 v37_11 v37_20 v37_21 v37_30 v37_31 v37_40 v37_41 hn
        refine w_lo dX9_heaviest_37 rfl rfl rfl rfl ?_
        exact ih38 M v37_1 v37_2 v37_3 v37_4 v37_3 hJ (by omega) (by omega) (by omega) (ztop _) (by omega) (by omega) (zbot _) (ztop _) (by omega)
      · intro M v38_1 v38_2 u38_3 v38_4 s38_0 hJ v38_10 v38_11 v38_20 v38_21 v38_40 v38_41 s38_00 s38_01 hn
        refine w_lo (ml' := [some (.ref 386), some (.int v38_1), some (.int v38_2), some (.int s38_0), some (.int v38_4)]) dX9_heaviest_38 rfl rfl rfl rfl ?_
        refine w_lo dX9_heaviest_39 rfl rfl rfl rfl ?_
        refine w_lo dX9_heaviest_40 rfl rfl rfl rfl ?_
        refine w_gf dX9_heaviest_41 rfl hJ.1.1 zs_386 (zr_386_15 hJ.1) ?_
        refine w_bi dX9_heaviest_44 (c := 12) (by decide) ?_
        refine w_lo dX9_heaviest_46 rfl rfl rfl rfl ?_
        refine w_gfi dX9_heaviest_47 rfl hJ.1 zs_386 (Nat.le_of_ble_eq_true rfl) zo_386_12 ?_
        intro x21 f22 h23 h24
        refine w_mulc dX9_heaviest_50 zt_12 (by have := zt_12; omega) ?_
        intro x25 h26
        have := zt_12
        refine w_lo dX9_heaviest_51 rfl rfl rfl rfl ?_
        refine w_gf dX9_heaviest_52 rfl hJ.1.1 zs_386 (zr_386_50 hJ.1) ?_
        refine w_lo dX9_heaviest_55 rfl rfl rfl rfl ?_
        refine w_iai dX9_heaviest_57 hJ.1 zs_419 (by omega) (by omega) zu_419 ?_
        intro x30 f27 h28 h29
        refine w_add dX9_heaviest_58 (by omega) ?_
        intro x31 h32
        refine w_iai dX9_heaviest_59 hJ.1 zs_390 (by omega) (by omega) zu_390 ?_
        intro x36 f33 h34 h35
        refine w_puI dX9_heaviest_60 rfl rfl ?_
        intro x37
        refine w_lo (ml' := [some (.ref 386), some (.int v38_1), some (.int v38_2), some (.int x37), some (.int v38_4)]) dX9_heaviest_61 rfl rfl rfl rfl ?_
        refine w_lo dX9_heaviest_62 rfl rfl rfl rfl ?_
        refine w_lo dX9_heaviest_63 rfl rfl rfl rfl ?_
        rcases zcut v38_2.toInt x37.toInt with h38 | h38
        · skip
          refine w_cle_f dX9_heaviest_64 (t := 71) rfl (by omega) ?_
          refine w_lo dX9_heaviest_67 rfl rfl rfl rfl ?_
          refine w_gt dX9_heaviest_68 (t := 72) rfl ?_
          refine w_lo (ml' := [some (.ref 386), some (.int v38_1), some (.int x37), some (.int x37), some (.int v38_4)]) dX9_heaviest_72 rfl rfl rfl rfl ?_
          refine w_inc (kk := 4) dX9_heaviest_73 rfl (m := 1) (by decide) (by omega) ?_
          intro x39 h40
          refine ⟨_, rfl, ?_⟩
          show ZW _ _ _ _ _ _ _ (76, [some (.ref 386), some (.int v38_1), some (.int x37), some (.int x37), some (.int x39)], [], M)
          refine w_gt dX9_heaviest_76 (t := 7) rfl ?_
          exact ih7 M v38_1 x37 x37 x39 hJ (by omega) (by omega) (by omega) (ztop _) (zbot _) (ztop _) (by omega) (by omega) (by omega)
        · skip
          refine w_cle_t dX9_heaviest_64 (t := 71) rfl (by omega) ?_
          refine w_lo dX9_heaviest_71 rfl rfl rfl rfl ?_
          refine w_lo (ml' := [some (.ref 386), some (.int v38_1), some (.int v38_2), some (.int x37), some (.int v38_4)]) dX9_heaviest_72 rfl rfl rfl rfl ?_
          refine w_inc (kk := 4) dX9_heaviest_73 rfl (m := 1) (by decide) (by omega) ?_
          intro x41 h42
          refine ⟨_, rfl, ?_⟩
          show ZW _ _ _ _ _ _ _ (76, [some (.ref 386), some (.int v38_1), some (.int v38_2), some (.int x37), some (.int x41)], [], M)
          refine w_gt dX9_heaviest_76 (t := 7) rfl ?_
          exact ih7 M v38_1 v38_2 x37 x41 hJ (by omega) (by omega) (by omega) (ztop _) (zbot _) (ztop _) (by omega) (by omega) (by omega)
  obtain ⟨ih7, ih37, ih38⟩ := main 78
  show ZW _ _ _ _ _ _ _ (0, [some (.ref 386), some (.int a0), none, none, none], [], M0)
  refine w_ic dX9_heaviest_0 zi_0 ?_
  refine w_lo (ml' := [some (.ref 386), some (.int a0), some (.int 0), none, none]) dX9_heaviest_1 rfl rfl rfl rfl ?_
  refine w_ic dX9_heaviest_2 zi_0 ?_
  refine w_lo (ml' := [some (.ref 386), some (.int a0), some (.int 0), some (.int 0), none]) dX9_heaviest_3 rfl rfl rfl rfl ?_
  refine w_ic dX9_heaviest_4 zi_0 ?_
  refine w_lo (ml' := [some (.ref 386), some (.int a0), some (.int 0), some (.int 0), some (.int 0)]) dX9_heaviest_5 rfl rfl rfl rfl ?_
  exact ih7 M0 a0 0 0 0 hJ0 (by omega) (by omega) (by have := zt_0; omega) (ztop _) (zbot _) (ztop _) (by have := zt_0; omega) (by have := zt_0; omega) (by have := zt_0; have := zt_0; have := zt_0; omega)
set_option maxRecDepth 100000 in
theorem k_2419 {X : List Int32} {d N : Nat} {M0 : zM} (a0 : Int32) (ha00 : (0 : Int) ≤ a0.toInt) (ha01 : a0.toInt ≤ 4) (hN : N ≤ 600) (hB0 : zB N M0) : ZV X (d + 3) 2419 [.ref 386, .int a0] M0 (zRI N [(437, 438, 1000)] M0 (0) (1) (fun _ _ => True)) := by
  have hJ0 : zJ N [(437, 438, 1000)] M0 M0 := zJ_refl hB0
  refine ZV.of (ini := false) rfl (Nat.le_of_ble_eq_true rfl) (by decide +kernel) ?_
  have main : ∀ n : Nat,
      (∀ (M : zM) (v4_1 : Int32) (v4_2 : Int32) (o4_3 : Option Value) (o4_4 : Option Value) (o4_5 : Option Value), zJ N [(437, 438, 1000)] M0 M → ((0 : Int) ≤ v4_1.toInt) → (v4_1.toInt ≤ 4) → ((-1 : Int) ≤ v4_2.toInt) → (v4_2.toInt ≤ 3) → 24 * (v4_2.toInt - (-1)) + 22 < (n : Int) → ZW X (d + 2) 9 false (some .boolean) cX9_nextCuts (zRI N [(437, 438, 1000)] M0 (0) (1) (fun _ _ => True)) (4, [some (.ref 386), some (.int v4_1), some (.int v4_2), o4_3, o4_4, o4_5], [], M)) ∧
      (∀ (M : zM) (v45_1 : Int32) (v45_2 : Int32) (u45_3 : Int32) (v45_4 : Int32) (v45_5 : Int32), zJ N [(437, 438, 1000)] M0 M → ((0 : Int) ≤ v45_1.toInt) → (v45_1.toInt ≤ 4) → ((0 : Int) ≤ v45_2.toInt) → (v45_2.toInt ≤ 3) → ((0 : Int) ≤ v45_4.toInt) → (v45_4.toInt ≤ 1) → ((1 : Int) ≤ v45_5.toInt) → (v45_5.toInt ≤ 4) → 24 * (v45_2.toInt - (-1)) + 4 * (4 - v45_5.toInt) + 1 < (n : Int) → ZW X (d + 2) 9 false (some .boolean) cX9_nextCuts (zRI N [(437, 438, 1000)] M0 (0) (1) (fun _ _ => True)) (45, [some (.ref 386), some (.int v45_1), some (.int v45_2), some (.int u45_3), some (.int v45_4), some (.int v45_5)], [], M)) := by
    intro n
    induction n with
    | zero =>
      exact ⟨(fun M v4_1 v4_2 o4_3 o4_4 o4_5 hJ v4_10 v4_11 v4_20 v4_21 hn => absurd hn (by omega)), (fun M v45_1 v45_2 u45_3 v45_4 v45_5 hJ v45_10 v45_11 v45_20 v45_21 v45_40 v45_41 v45_50 v45_51 hn => absurd hn (by omega))⟩
    | succ n ih =>
      obtain ⟨ih4, ih45⟩ := ih
      refine ⟨?_, ?_⟩
      · intro M v4_1 v4_2 o4_3 o4_4 o4_5 hJ v4_10 v4_11 v4_20 v4_21 hn
        refine w_lo dX9_nextCuts_4 rfl rfl rfl rfl ?_
        rcases zcut v4_2.toInt (0 : Int) with h1 | h1
        · skip
          refine w_ilt_t dX9_nextCuts_5 (t := 115) rfl (by omega) ?_
          refine w_ic dX9_nextCuts_115 zi_0 ?_
          refine w_en dX9_nextCuts_116 rfl ?_
          exact ⟨_, _, rfl, (by have := zt_0; omega), (by have := zt_0; omega), hJ, trivial⟩
        · skip
          refine w_ilt_f dX9_nextCuts_5 (t := 115) rfl (by omega) ?_
          refine w_lo dX9_nextCuts_8 rfl rfl rfl rfl ?_
          refine w_lo dX9_nextCuts_9 rfl rfl rfl rfl ?_
          refine w_gf dX9_nextCuts_10 rfl hJ.1.1 zs_386 (zr_386_78 hJ.1) ?_
          refine w_lo dX9_nextCuts_13 rfl rfl rfl rfl ?_
          refine w_iai dX9_nextCuts_14 hJ.1 zs_437 (by omega) (by omega) zu_437 ?_
          intro x5 f2 h3 h4
          refine w_ic dX9_nextCuts_15 zi_1 ?_
          refine w_add dX9_nextCuts_16 (by have := zt_1; omega) ?_
          intro x6 h7
          have := zt_1
          refine w_iv dX9_nextCuts_17 rfl rfl (As := [.int x6]) rfl rfl hJ.1.1 zs_386 (Nat.le_of_ble_eq_true rfl) ?_
          refine ZV.imp (k_2416 x6 (by omega) (by omega) hN hJ.1) ?_
          rintro _ ⟨x11, M8, rfl, h12, h13, hJ9, hq10⟩
          have hJ14 := zJ_trans hJ hJ9 zSub_nil
          show ZW _ _ _ _ _ _ _ (20, [some (.ref 386), some (.int v4_1), some (.int v4_2), o4_3, o4_4, o4_5], [.int x11], M8)
          refine w_lo (ml' := [some (.ref 386), some (.int v4_1), some (.int v4_2), some (.int x11), o4_4, o4_5]) dX9_nextCuts_20 rfl rfl rfl rfl ?_
          refine w_lo dX9_nextCuts_21 rfl rfl rfl rfl ?_
          refine w_ic dX9_nextCuts_22 zi_m1 ?_
          rcases Int.decEq x11.toInt (-1 : Int) with h15 | h15
          · skip
            refine w_ceq_f dX9_nextCuts_23 (t := 30) rfl (by have := zt_m1; omega) ?_
            refine w_ic dX9_nextCuts_26 zi_1 ?_
            refine w_gt dX9_nextCuts_27 (t := 31) rfl ?_
            refine w_lo (ml' := [some (.ref 386), some (.int v4_1), some (.int v4_2), some (.int x11), some (.int 1), o4_5]) dX9_nextCuts_31 rfl rfl rfl rfl ?_
            refine w_lo dX9_nextCuts_33 rfl rfl rfl rfl ?_
            refine w_gf dX9_nextCuts_34 rfl hJ14.1.1 zs_386 (zr_386_78 hJ14.1) ?_
            refine w_lo dX9_nextCuts_37 rfl rfl rfl rfl ?_
            refine w_lo dX9_nextCuts_38 rfl rfl rfl rfl ?_
            refine w_isi dX9_nextCuts_39 hJ14 zs_437 (by omega) (by omega) zu_437 (by omega) (by omega) (zIR_a (by omega) (by omega)) ?_
            intro M16 hJ17 f18 hn19
            refine w_lo dX9_nextCuts_40 rfl rfl rfl rfl ?_
            refine w_ic dX9_nextCuts_41 zi_1 ?_
            refine w_add dX9_nextCuts_42 (by have := zt_1; omega) ?_
            intro x20 h21
            have := zt_1
            refine w_lo (ml' := [some (.ref 386), some (.int v4_1), some (.int v4_2), some (.int x11), some (.int 1), some (.int x20)]) dX9_nextCuts_43 rfl rfl rfl rfl ?_
            exact ih45 M16 v4_1 v4_2 x11 1 x20 hJ17 (by omega) (by omega) (by omega) (by omega) (by have := zt_1; omega) (by have := zt_1; omega) (by omega) (by omega) (by have := zt_1; omega)
          · skip
            refine w_ceq_t dX9_nextCuts_23 (t := 30) rfl (by have := zt_m1; omega) ?_
            refine w_ic dX9_nextCuts_30 zi_0 ?_
            refine w_lo (ml' := [some (.ref 386), some (.int v4_1), some (.int v4_2), some (.int x11), some (.int 0), o4_5]) dX9_nextCuts_31 rfl rfl rfl rfl ?_
            refine w_lo dX9_nextCuts_33 rfl rfl rfl rfl ?_
            refine w_gf dX9_nextCuts_34 rfl hJ14.1.1 zs_386 (zr_386_78 hJ14.1) ?_
            refine w_lo dX9_nextCuts_37 rfl rfl rfl rfl ?_
            refine w_lo dX9_nextCuts_38 rfl rfl rfl rfl ?_
            refine w_isi dX9_nextCuts_39 hJ14 zs_437 (by omega) (by omega) zu_437 (by omega) (by omega) (zIR_a (by omega) (by omega)) ?_
            intro M22 hJ23 f24 hn25
            refine w_lo dX9_nextCuts_40 rfl rfl rfl rfl ?_
            refine w_ic dX9_nextCuts_41 zi_1 ?_
            refine w_add dX9_nextCuts_42 (by have := zt_1; omega) ?_
            intro x26 h27
            have := zt_1
            refine w_lo (ml' := [some (.ref 386), some (.int v4_1), some (.int v4_2), some (.int x11), some (.int 0), some (.int x26)]) dX9_nextCuts_43 rfl rfl rfl rfl ?_
            exact ih45 M22 v4_1 v4_2 x11 0 x26 hJ23 (by omega) (by omega) (by omega) (by omega) (by have := zt_0; omega) (by have := zt_0; omega) (by omega) (by omega) (by have := zt_0; omega)
      · intro M v45_1 v45_2 u45_3 v45_4 v45_5 hJ v45_10 v45_11 v45_20 v45_21 v45_40 v45_41 v45_50 v45_51 hn
        refine w_lo dX9_nextCuts_45 rfl rfl rfl rfl ?_
        refine w_lo dX9_nextCuts_47 rfl rfl rfl rfl ?_
        rcases zcut v45_5.toInt v45_1.toInt with h28 | h28
        · skip
          refine w_cge_f dX9_nextCuts_48 (t := 102) rfl (by omega) ?_
          refine w_lo dX9_nextCuts_51 rfl rfl rfl rfl ?_
          rcases Int.decEq v45_4.toInt (0 : Int) with h29 | h29
          · skip
            refine w_ieq_f dX9_nextCuts_53 (t := 102) rfl (by omega) ?_
            refine w_lo dX9_nextCuts_56 rfl rfl rfl rfl ?_
            refine w_gf dX9_nextCuts_57 rfl hJ.1.1 zs_386 (zr_386_78 hJ.1) ?_
            refine w_lo dX9_nextCuts_60 rfl rfl rfl rfl ?_
            refine w_lo dX9_nextCuts_62 rfl rfl rfl rfl ?_
            refine w_lo dX9_nextCuts_63 rfl rfl rfl rfl ?_
            refine w_gf dX9_nextCuts_64 rfl hJ.1.1 zs_386 (zr_386_78 hJ.1) ?_
            refine w_lo dX9_nextCuts_67 rfl rfl rfl rfl ?_
            refine w_ic dX9_nextCuts_69 zi_1 ?_
            refine w_sub dX9_nextCuts_70 (by have := zt_1; omega) ?_
            intro x30 h31
            have := zt_1
            refine w_iai dX9_nextCuts_71 hJ.1 zs_437 (by omega) (by omega) zu_437 ?_
            intro x35 f32 h33 h34
            refine w_ic dX9_nextCuts_72 zi_1 ?_
            refine w_add dX9_nextCuts_73 (by have := zt_1; omega) ?_
            intro x36 h37
            have := zt_1
            refine w_iv dX9_nextCuts_74 rfl rfl (As := [.int x36]) rfl rfl hJ.1.1 zs_386 (Nat.le_of_ble_eq_true rfl) ?_
            refine ZV.imp (k_2416 x36 (by omega) (by omega) hN hJ.1) ?_
            rintro _ ⟨x41, M38, rfl, h42, h43, hJ39, hq40⟩
            have hJ44 := zJ_trans hJ hJ39 zSub_nil
            show ZW _ _ _ _ _ _ _ (77, [some (.ref 386), some (.int v45_1), some (.int v45_2), some (.int u45_3), some (.int v45_4), some (.int v45_5)], [.int x41, .int v45_5, .ref 437], M38)
            refine w_isi dX9_nextCuts_77 hJ44 zs_437 (by omega) (by omega) zu_437 (by omega) (by omega) (zIR_a (by omega) (by omega)) ?_
            intro M45 hJ46 f47 hn48
            refine w_lo dX9_nextCuts_78 rfl rfl rfl rfl ?_
            refine w_gf dX9_nextCuts_79 rfl hJ46.1.1 zs_386 (zr_386_78 hJ46.1) ?_
            refine w_lo dX9_nextCuts_82 rfl rfl rfl rfl ?_
            refine w_ia dX9_nextCuts_84 hJ46.1.1 zs_437 (znat (by omega)) f47 ?_
            refine w_ic dX9_nextCuts_85 zi_m1 ?_
            rcases Int.decEq x41.toInt (-1 : Int) with h52 | h52
            · skip
              refine w_ceq_f dX9_nextCuts_86 (t := 93) rfl (by have := zt_m1; omega) ?_
              refine w_ic dX9_nextCuts_89 zi_1 ?_
              refine w_gt dX9_nextCuts_90 (t := 94) rfl ?_
              refine w_lo (ml' := [some (.ref 386), some (.int v45_1), some (.int v45_2), some (.int u45_3), some (.int 1), some (.int v45_5)]) dX9_nextCuts_94 rfl rfl rfl rfl ?_
              refine w_inc (kk := 5) dX9_nextCuts_96 rfl (m := 1) (by decide) (by omega) ?_
              intro x53 h54
              refine ⟨_, rfl, ?_⟩
              show ZW _ _ _ _ _ _ _ (99, [some (.ref 386), some (.int v45_1), some (.int v45_2), some (.int u45_3), some (.int 1), some (.int x53)], [], M45)
              refine w_gt dX9_nextCuts_99 (t := 45) rfl ?_
              exact ih45 M45 v45_1 v45_2 u45_3 1 x53 hJ46 (by omega) (by omega) (by omega) (by omega) (by have := zt_1; omega) (by have := zt_1; omega) (by omega) (by omega) (by have := zt_1; omega)
            · skip
              refine w_ceq_t dX9_nextCuts_86 (t := 93) rfl (by have := zt_m1; omega) ?_
              refine w_ic dX9_nextCuts_93 zi_0 ?_
              refine w_lo (ml' := [some (.ref 386), some (.int v45_1), some (.int v45_2), some (.int u45_3), some (.int 0), some (.int v45_5)]) dX9_nextCuts_94 rfl rfl rfl rfl ?_
              refine w_inc (kk := 5) dX9_nextCuts_96 rfl (m := 1) (by decide) (by omega) ?_
              intro x55 h56
              refine ⟨_, rfl, ?_⟩
              show ZW _ _ _ _ _ _ _ (99, [some (.ref 386), some (.int v45_1), some (.int v45_2), some (.int u45_3), some (.int 0), some (.int x55)], [], M45)
              refine w_gt dX9_nextCuts_99 (t := 45) rfl ?_
              exact ih45 M45 v45_1 v45_2 u45_3 0 x55 hJ46 (by omega) (by omega) (by omega) (by omega) (by have := zt_0; omega) (by have := zt_0; omega) (by omega) (by omega) (by have := zt_0; omega)
          · skip
            refine w_ieq_t dX9_nextCuts_53 (t := 102) rfl (by omega) ?_
            refine w_lo dX9_nextCuts_102 rfl rfl rfl rfl ?_
            refine w_ieq_t dX9_nextCuts_104 (t := 109) rfl (by omega) ?_
            refine w_inc (kk := 2) dX9_nextCuts_109 rfl (m := -1) (by decide) (by omega) ?_
            intro x57 h58
            refine ⟨_, rfl, ?_⟩
            show ZW _ _ _ _ _ _ _ (112, [some (.ref 386), some (.int v45_1), some (.int x57), some (.int u45_3), some (.int v45_4), some (.int v45_5)], [], M)
            refine w_gt dX9_nextCuts_112 (t := 4) rfl ?_
            exact ih4 M v45_1 x57 (some (.int u45_3)) (some (.int v45_4)) (some (.int v45_5)) hJ (by omega) (by omega) (by omega) (by omega) (by omega)
        · skip
          refine w_cge_t dX9_nextCuts_48 (t := 102) rfl (by omega) ?_
          refine w_lo dX9_nextCuts_102 rfl rfl rfl rfl ?_
          rcases Int.decEq v45_4.toInt (0 : Int) with h59 | h59
          · skip
            refine w_ieq_f dX9_nextCuts_104 (t := 109) rfl (by omega) ?_
            refine w_ic dX9_nextCuts_107 zi_1 ?_
            refine w_en dX9_nextCuts_108 rfl ?_
            exact ⟨_, _, rfl, (by have := zt_1; omega), (by have := zt_1; omega), hJ, trivial⟩
          · skip
            refine w_ieq_t dX9_nextCuts_104 (t := 109) rfl (by omega) ?_
            refine w_inc (kk := 2) dX9_nextCuts_109 rfl (m := -1) (by decide) (by omega) ?_
            intro x60 h61
            refine ⟨_, rfl, ?_⟩
            show ZW _ _ _ _ _ _ _ (112, [some (.ref 386), some (.int v45_1), some (.int x60), some (.int u45_3), some (.int v45_4), some (.int v45_5)], [], M)
            refine w_gt dX9_nextCuts_112 (t := 4) rfl ?_
            exact ih4 M v45_1 x60 (some (.int u45_3)) (some (.int v45_4)) (some (.int v45_5)) hJ (by omega) (by omega) (by omega) (by omega) (by omega)
  obtain ⟨ih4, ih45⟩ := main 171
  show ZW _ _ _ _ _ _ _ (0, [some (.ref 386), some (.int a0), none, none, none, none], [], M0)
  refine w_lo dX9_nextCuts_0 rfl rfl rfl rfl ?_
  refine w_ic dX9_nextCuts_1 zi_1 ?_
  refine w_sub dX9_nextCuts_2 (by have := zt_1; omega) ?_
  intro x62 h63
  have := zt_1
  refine w_lo (ml' := [some (.ref 386), some (.int a0), some (.int x62), none, none, none]) dX9_nextCuts_3 rfl rfl rfl rfl ?_
  exact ih4 M0 a0 x62 none none none hJ0 (by omega) (by omega) (by omega) (by omega) (by omega)
set_option maxRecDepth 100000 in
theorem k_2420 {X : List Int32} {d N : Nat} {M0 : zM} (a0 : Int32) (hN : N ≤ 600) (hB0 : zB N M0) : ZV X (d + 2) 2420 [.ref 386, .int a0] M0 (zRI N [] M0 (-1) (4095) (fun _ _ => True)) := by
  have hJ0 : zJ N [] M0 M0 := zJ_refl hB0
  refine ZV.of (ini := false) rfl (Nat.le_of_ble_eq_true rfl) (by decide +kernel) ?_
  have main : ∀ n : Nat,
      (∀ (M : zM) (v42_1 : Int32) (v42_2 : Int32) (v42_3 : Int32) (v42_4 : Int32) (v42_5 : Int32) (o42_6 : Option Value), zJ N [] M0 M → ((0 : Int) ≤ v42_1.toInt) → (v42_1.toInt ≤ 11) → ((0 : Int) ≤ v42_2.toInt) → (v42_2.toInt ≤ 4095) → ((-2147483648 : Int) ≤ v42_3.toInt) → (v42_3.toInt ≤ 2147483647) → ((0 : Int) ≤ v42_4.toInt) → (v42_4.toInt ≤ 1) → ((1 : Int) ≤ v42_5.toInt) → (v42_5.toInt ≤ 12) → 8 * (12 - v42_5.toInt) + 110 < (n : Int) → ZW X (d + 1) 9 false (some .int) cX9_walk (zRI N [] M0 (-1) (4095) (fun _ _ => True)) (42, [some (.ref 386), some (.int v42_1), some (.int v42_2), some (.int v42_3), some (.int v42_4), some (.int v42_5), o42_6], [], M)) ∧
      (∀ (M : zM) (v111_1 : Int32) (v111_2 : Int32) (v111_3 : Int32) (u111_4 : Int32) (v111_5 : Int32) (v111_6 : Int32), zJ N [] M0 M → ((0 : Int) ≤ v111_1.toInt) → (v111_1.toInt ≤ 11) → ((0 : Int) ≤ v111_2.toInt) → (v111_2.toInt ≤ 4095) → ((-2147483648 : Int) ≤ v111_3.toInt) → (v111_3.toInt ≤ 2147483647) → ((1 : Int) ≤ v111_5.toInt) → (v111_5.toInt ≤ 11) → ((-2147483648 : Int) ≤ v111_6.toInt) → (v111_6.toInt ≤ 2147483647) → 8 * (12 - v111_5.toInt) + 109 < (n : Int) → ZW X (d + 1) 9 false (some .int) cX9_walk (zRI N [] M0 (-1) (4095) (fun _ _ => True)) (111, [some (.ref 386), some (.int v111_1), some (.int v111_2), some (.int v111_3), some (.int u111_4), some (.int v111_5), some (.int v111_6)], [], M)) ∧
      (∀ (M : zM) (v128_1 : Int32) (u128_2 : Int32) (v128_3 : Int32) (v128_4 : Int32) (v128_5 : Int32) (v128_6 : Int32) (s128_0 : Int32) (s128_1 : Int32), zJ N [] M0 M → ((0 : Int) ≤ v128_1.toInt) → (v128_1.toInt ≤ 11) → ((-2147483648 : Int) ≤ v128_3.toInt) → (v128_3.toInt ≤ 2147483647) → ((0 : Int) ≤ v128_4.toInt) → (v128_4.toInt ≤ 1) → ((1 : Int) ≤ v128_5.toInt) → (v128_5.toInt ≤ 11) → ((-2147483648 : Int) ≤ v128_6.toInt) → (v128_6.toInt ≤ 2147483647) → ((0 : Int) ≤ s128_0.toInt) → (s128_0.toInt ≤ 4095) → ((0 : Int) ≤ s128_1.toInt) → (s128_1.toInt ≤ 2048) → 8 * (12 - v128_5.toInt) + 108 < (n : Int) → ZW X (d + 1) 9 false (some .int) cX9_walk (zRI N [] M0 (-1) (4095) (fun _ _ => True)) (128, [some (.ref 386), some (.int v128_1), some (.int u128_2), some (.int v128_3), some (.int v128_4), some (.int v128_5), some (.int v128_6)], [.int s128_1, .int s128_0], M)) ∧
      (∀ (M : zM) (v151_1 : Int32) (v151_2 : Int32) (u151_3 : Int32) (u151_4 : Int32) (u151_5 : Int32) (o151_6 : Option Value), zJ N [] M0 M → ((0 : Int) ≤ v151_1.toInt) → (v151_1.toInt ≤ 11) → ((0 : Int) ≤ v151_2.toInt) → (v151_2.toInt ≤ 4095) → 107 < (n : Int) → ZW X (d + 1) 9 false (some .int) cX9_walk (zRI N [] M0 (-1) (4095) (fun _ _ => True)) (151, [some (.ref 386), some (.int v151_1), some (.int v151_2), some (.int u151_3), some (.int u151_4), some (.int u151_5), o151_6], [], M)) ∧
      (∀ (M : zM) (u181_1 : Int32) (v181_2 : Int32) (v181_3 : Int32) (v181_4 : Int32) (v181_5 : Int32) (o181_6 : Option Value), zJ N [] M0 M → ((0 : Int) ≤ v181_2.toInt) → (v181_2.toInt ≤ 4095) → ((-2147483648 : Int) ≤ v181_3.toInt) → (v181_3.toInt ≤ 2147483647) → ((0 : Int) ≤ v181_4.toInt) → (v181_4.toInt ≤ 1) → ((-1 : Int) ≤ v181_5.toInt) → (v181_5.toInt ≤ 10) → 8 * (v181_5.toInt - (-1)) + 2 < (n : Int) → ZW X (d + 1) 9 false (some .int) cX9_walk (zRI N [] M0 (-1) (4095) (fun _ _ => True)) (181, [some (.ref 386), some (.int u181_1), some (.int v181_2), some (.int v181_3), some (.int v181_4), some (.int v181_5), o181_6], [], M)) ∧
      (∀ (M : zM) (u242_1 : Int32) (v242_2 : Int32) (v242_3 : Int32) (u242_4 : Int32) (v242_5 : Int32) (v242_6 : Int32), zJ N [] M0 M → ((0 : Int) ≤ v242_2.toInt) → (v242_2.toInt ≤ 4095) → ((-2147483648 : Int) ≤ v242_3.toInt) → (v242_3.toInt ≤ 2147483647) → ((0 : Int) ≤ v242_5.toInt) → (v242_5.toInt ≤ 10) → ((-2147483648 : Int) ≤ v242_6.toInt) → (v242_6.toInt ≤ 2147483647) → 8 * (v242_5.toInt - (-1)) + 1 < (n : Int) → ZW X (d + 1) 9 false (some .int) cX9_walk (zRI N [] M0 (-1) (4095) (fun _ _ => True)) (242, [some (.ref 386), some (.int u242_1), some (.int v242_2), some (.int v242_3), some (.int u242_4), some (.int v242_5), some (.int v242_6)], [], M)) := by
    intro n
    induction n with
    | zero =>
      exact ⟨(fun M v42_1 v42_2 v42_3 v42_4 v42_5 o42_6 hJ v42_10 v42_11 v42_20 v42_21 v42_30 v42_31 v42_40 v42_41 v42_50 v42_51 hn => absurd hn (by omega)), (fun M v111_1 v111_2 v111_3 u111_4 v111_5 v111_6 hJ v111_10 v111_11 v111_20 v111_21 v111_30 v111_31 v111_50 v111_51 v111_60 v111_61 hn => absurd hn (by omega)), (fun M v128_1 u128_2 v128_3 v128_4 v128_5 v128_6 s128_0 s128_1 hJ v128_10 v128_11 v128_30 v128_31 v128_40 v128_41 v128_50 v128_51 v128_60 v128_61 s128_00 s128_01 s128_10 s128_11 hn => absurd hn (by omega)), (fun M v151_1 v151_2 u151_3 u151_4 u151_5 o151_6 hJ v151_10 v151_11 v151_20 v151_21 hn => absurd hn (by omega)), (fun M u181_1 v181_2 v181_3 v181_4 v181_5 o181_6 hJ v181_20 v181_21 v181_30 v181_31 v181_40 v181_41 v181_50 v181_51 hn => absurd hn (by omega)), (fun M u242_1 v242_2 v242_3 u242_4 v242_5 v242_6 hJ v242_20 v242_21 v242_30 v242_31 v242_50 v242_51 v242_60 v242_61 hn => absurd hn (by omega))⟩
    | succ n ih =>
      obtain ⟨ih42, ih111, ih128, ih151, ih181, ih242⟩ := ih
      refine ⟨?_, ?_, ?_, ?_, ?_, ?_⟩
      · intro M v42_1 v42_2 v42_3 v42_4 v42_5 o42_6 hJ v42_10 v42_11 v42_20 v42_21 v42_30 v42_31 v42_40 v42_41 v42_50 v42_51 hn
        refine w_lo dX9_walk_42 rfl rfl rfl rfl ?_
        refine w_lo dX9_walk_44 rfl rfl rfl rfl ?_
        refine w_iv dX9_walk_45 rfl rfl (As := []) rfl rfl hJ.1.1 zs_386 (Nat.le_of_ble_eq_true rfl) ?_
        refine ZV.of (ini := false) rfl (Nat.le_of_ble_eq_true rfl) (by decide +kernel) ?_
        show ZW _ _ _ _ _ _ _ (0, [some (.ref 386)], [], M)
        refine w_lo dX9_many_0 rfl rfl rfl rfl ?_
        refine w_gf dX9_many_1 rfl hJ.1.1 zs_386 (zr_386_13 hJ.1) ?_
        refine w_lo dX9_many_4 rfl rfl rfl rfl ?_
        refine w_gfi dX9_many_5 rfl hJ.1 zs_386 (Nat.le_of_ble_eq_true rfl) zo_386_12 ?_
        intro x1 f2 h3 h4
        refine w_iai dX9_many_8 hJ.1 zs_388 (by omega) (by omega) zu_388 ?_
        intro x8 f5 h6 h7
        refine w_eni dX9_many_9 rfl rfl ?_
        show ZW _ _ _ _ _ _ _ (48, [some (.ref 386), some (.int v42_1), some (.int v42_2), some (.int v42_3), some (.int v42_4), some (.int v42_5), o42_6], [.int x8, .int v42_5], M)
        rcases zcut v42_5.toInt x8.toInt with h9 | h9
        · skip
          refine w_cge_f dX9_walk_48 (t := 151) rfl (by omega) ?_
          refine w_lo dX9_walk_51 rfl rfl rfl rfl ?_
          rcases Int.decEq v42_4.toInt (0 : Int) with h10 | h10
          · skip
            refine w_ieq_f dX9_walk_53 (t := 151) rfl (by omega) ?_
            refine w_lo dX9_walk_56 rfl rfl rfl rfl ?_
            refine w_gf dX9_walk_57 rfl hJ.1.1 zs_386 (zr_386_15 hJ.1) ?_
            refine w_bi dX9_walk_60 (c := 12) (by decide) ?_
            refine w_lo dX9_walk_62 rfl rfl rfl rfl ?_
            refine w_gf dX9_walk_63 rfl hJ.1.1 zs_386 f2 ?_
            refine w_mulc dX9_walk_66 zt_12 (by have := zt_12; omega) ?_
            intro x11 h12
            have := zt_12
            refine w_lo dX9_walk_67 rfl rfl rfl rfl ?_
            refine w_gf dX9_walk_68 rfl hJ.1.1 zs_386 (zr_386_50 hJ.1) ?_
            refine w_lo dX9_walk_71 rfl rfl rfl rfl ?_
            refine w_iai dX9_walk_73 hJ.1 zs_419 (by omega) (by omega) zu_419 ?_
            intro x16 f13 h14 h15
            refine w_add dX9_walk_74 (by omega) ?_
            intro x17 h18
            refine w_iai dX9_walk_75 hJ.1 zs_390 (by omega) (by omega) zu_390 ?_
            intro x22 f19 h20 h21
            refine w_lo (ml' := [some (.ref 386), some (.int v42_1), some (.int v42_2), some (.int v42_3), some (.int v42_4), some (.int v42_5), some (.int x22)]) dX9_walk_76 rfl rfl rfl rfl ?_
            refine w_lo dX9_walk_78 rfl rfl rfl rfl ?_
            refine w_gf dX9_walk_79 rfl hJ.1.1 zs_386 (zr_386_60 hJ.1) ?_
            refine w_lo dX9_walk_82 rfl rfl rfl rfl ?_
            refine w_ic dX9_walk_84 zi_1 ?_
            refine w_sub dX9_walk_85 (by have := zt_1; omega) ?_
            intro x23 h24
            have := zt_1
            refine w_iai dX9_walk_86 hJ.1 zs_429 (by omega) (by omega) zu_429 ?_
            intro x28 f25 h26 h27
            refine w_ic dX9_walk_87 zi_1 ?_
            rcases Int.decEq x28.toInt (1 : Int) with h29 | h29
            · skip
              refine w_cne_t dX9_walk_88 (t := 111) rfl (by have := zt_1; omega) ?_
              exact ih111 M v42_1 v42_2 v42_3 v42_4 v42_5 x22 hJ (by omega) (by omega) (by omega) (by omega) (zbot _) (ztop _) (by omega) (by omega) (zbot _) (ztop _) (by omega)
            · skip
              refine w_cne_f dX9_walk_88 (t := 111) rfl (by have := zt_1; omega) ?_
              refine w_lo dX9_walk_91 rfl rfl rfl rfl ?_
              refine w_lo dX9_walk_92 rfl rfl rfl rfl ?_
              refine w_gf dX9_walk_93 rfl hJ.1.1 zs_386 (zr_386_61 hJ.1) ?_
              refine w_lo dX9_walk_96 rfl rfl rfl rfl ?_
              refine w_ic dX9_walk_98 zi_1 ?_
              refine w_sub dX9_walk_99 (by have := zt_1; omega) ?_
              intro x30 h31
              have := zt_1
              refine w_iai dX9_walk_100 hJ.1 zs_430 (by omega) (by omega) zu_430 ?_
              intro x35 f32 h33 h34
              refine w_puI dX9_walk_101 rfl rfl ?_
              intro x36
              refine w_lo dX9_walk_102 rfl rfl rfl rfl ?_
              rcases zcut x36.toInt x22.toInt with h37 | h37
              · skip
                refine w_clt_t dX9_walk_104 (t := 111) rfl (by omega) ?_
                exact ih111 M v42_1 v42_2 v42_3 v42_4 v42_5 x22 hJ (by omega) (by omega) (by omega) (by omega) (zbot _) (ztop _) (by omega) (by omega) (zbot _) (ztop _) (by omega)
              · skip
                refine w_clt_f dX9_walk_104 (t := 111) rfl (by omega) ?_
                refine w_ic dX9_walk_107 zi_1 ?_
                refine w_gt dX9_walk_108 (t := 112) rfl ?_
                refine w_lo (ml' := [some (.ref 386), some (.int v42_1), some (.int v42_2), some (.int v42_3), some (.int 1), some (.int v42_5), some (.int x22)]) dX9_walk_112 rfl rfl rfl rfl ?_
                refine w_lo dX9_walk_114 rfl rfl rfl rfl ?_
                refine w_lo dX9_walk_115 rfl rfl rfl rfl ?_
                refine w_ieq_f dX9_walk_117 (t := 127) rfl (by have := zt_1; omega) ?_
                refine w_ic dX9_walk_120 zi_1 ?_
                refine w_lo dX9_walk_121 rfl rfl rfl rfl ?_
                refine w_shl dX9_walk_123 (by omega) (by omega) (m := 11) (by omega) ?_
                intro x38 h39 h40
                have : (2 : Int) ^ 11 = 2048 := by decide
                refine w_gt dX9_walk_124 (t := 128) rfl ?_
                exact ih128 M v42_1 v42_2 v42_3 1 v42_5 x22 v42_2 x38 hJ (by omega) (by omega) (zbot _) (ztop _) (by have := zt_1; omega) (by have := zt_1; omega) (by omega) (by omega) (zbot _) (ztop _) (by omega) (by omega) (by omega) (by omega) (by have := zt_1; omega)
          · skip
            refine w_ieq_t dX9_walk_53 (t := 151) rfl (by omega) ?_
            exact ih151 M v42_1 v42_2 v42_3 v42_4 v42_5 o42_6 hJ (by omega) (by omega) (by omega) (by omega) (by omega)
        · skip
          refine w_cge_t dX9_walk_48 (t := 151) rfl (by omega) ?_
          exact ih151 M v42_1 v42_2 v42_3 v42_4 v42_5 o42_6 hJ (by omega) (by omega) (by omega) (by omega) (by omega)
      · intro M v111_1 v111_2 v111_3 u111_4 v111_5 v111_6 hJ v111_10 v111_11 v111_20 v111_21 v111_30 v111_31 v111_50 v111_51 v111_60 v111_61 hn
        refine w_ic dX9_walk_111 zi_0 ?_
        refine w_lo (ml' := [some (.ref 386), some (.int v111_1), some (.int v111_2), some (.int v111_3), some (.int 0), some (.int v111_5), some (.int v111_6)]) dX9_walk_112 rfl rfl rfl rfl ?_
        refine w_lo dX9_walk_114 rfl rfl rfl rfl ?_
        refine w_lo dX9_walk_115 rfl rfl rfl rfl ?_
        refine w_ieq_t dX9_walk_117 (t := 127) rfl (by have := zt_0; omega) ?_
        refine w_ic dX9_walk_127 zi_0 ?_
        exact ih128 M v111_1 v111_2 v111_3 0 v111_5 v111_6 v111_2 0 hJ (by omega) (by omega) (zbot _) (ztop _) (by have := zt_0; omega) (by have := zt_0; omega) (by omega) (by omega) (zbot _) (ztop _) (by omega) (by omega) (by have := zt_0; omega) (by have := zt_0; omega) (by have := zt_0; have := zt_0; omega)
      · intro M v128_1 u128_2 v128_3 v128_4 v128_5 v128_6 s128_0 s128_1 hJ v128_10 v128_11 v128_30 v128_31 v128_40 v128_41 v128_50 v128_51 v128_60 v128_61 s128_00 s128_01 s128_10 s128_11 hn
        refine w_or dX9_walk_128 (m := 12) (by decide) (by omega) (by omega) (by omega) (by omega) ?_
        intro x41 h42 h43
        have : (2 : Int) ^ 12 = 4096 := by decide
        refine w_lo (ml' := [some (.ref 386), some (.int v128_1), some (.int x41), some (.int v128_3), some (.int v128_4), some (.int v128_5), some (.int v128_6)]) dX9_walk_129 rfl rfl rfl rfl ?_
        refine w_lo dX9_walk_130 rfl rfl rfl rfl ?_
        refine w_lo dX9_walk_131 rfl rfl rfl rfl ?_
        refine w_gf dX9_walk_132 rfl hJ.1.1 zs_386 (zr_386_61 hJ.1) ?_
        refine w_lo dX9_walk_135 rfl rfl rfl rfl ?_
        refine w_ic dX9_walk_137 zi_1 ?_
        refine w_sub dX9_walk_138 (by have := zt_1; omega) ?_
        intro x44 h45
        have := zt_1
        refine w_iai dX9_walk_139 hJ.1 zs_430 (by omega) (by omega) zu_430 ?_
        intro x49 f46 h47 h48
        refine w_lo dX9_walk_140 rfl rfl rfl rfl ?_
        refine w_puI dX9_walk_142 rfl rfl ?_
        intro x50
        refine w_puI dX9_walk_143 rfl rfl ?_
        intro x51
        refine w_lo (ml' := [some (.ref 386), some (.int v128_1), some (.int x41), some (.int x51), some (.int v128_4), some (.int v128_5), some (.int v128_6)]) dX9_walk_144 rfl rfl rfl rfl ?_
        refine w_inc (kk := 5) dX9_walk_145 rfl (m := 1) (by decide) (by omega) ?_
        intro x52 h53
        refine ⟨_, rfl, ?_⟩
        show ZW _ _ _ _ _ _ _ (148, [some (.ref 386), some (.int v128_1), some (.int x41), some (.int x51), some (.int v128_4), some (.int x52), some (.int v128_6)], [], M)
        refine w_gt dX9_walk_148 (t := 42) rfl ?_
        exact ih42 M v128_1 x41 x51 v128_4 x52 (some (.int v128_6)) hJ (by omega) (by omega) (by omega) (by omega) (zbot _) (ztop _) (by omega) (by omega) (by omega) (by omega) (by omega)
      · intro M v151_1 v151_2 u151_3 u151_4 u151_5 o151_6 hJ v151_10 v151_11 v151_20 v151_21 hn
        refine w_ic dX9_walk_151 zi_3 ?_
        refine w_lo dX9_walk_152 rfl rfl rfl rfl ?_
        refine w_gf dX9_walk_153 rfl hJ.1.1 zs_386 (zr_386_15 hJ.1) ?_
        refine w_bi dX9_walk_156 (c := 12) (by decide) ?_
        refine w_lo dX9_walk_158 rfl rfl rfl rfl ?_
        refine w_gfi dX9_walk_159 rfl hJ.1 zs_386 (Nat.le_of_ble_eq_true rfl) zo_386_12 ?_
        intro x54 f55 h56 h57
        refine w_mulc dX9_walk_162 zt_12 (by have := zt_12; omega) ?_
        intro x58 h59
        have := zt_12
        refine w_lo dX9_walk_163 rfl rfl rfl rfl ?_
        refine w_gf dX9_walk_164 rfl hJ.1.1 zs_386 (zr_386_50 hJ.1) ?_
        refine w_lo dX9_walk_167 rfl rfl rfl rfl ?_
        refine w_iai dX9_walk_168 hJ.1 zs_419 (by omega) (by omega) zu_419 ?_
        intro x63 f60 h61 h62
        refine w_add dX9_walk_169 (by omega) ?_
        intro x64 h65
        refine w_iai dX9_walk_170 hJ.1 zs_390 (by omega) (by omega) zu_390 ?_
        intro x69 f66 h67 h68
        refine w_puI dX9_walk_171 rfl rfl ?_
        intro x70
        refine w_lo (ml' := [some (.ref 386), some (.int v151_1), some (.int v151_2), some (.int x70), some (.int u151_4), some (.int u151_5), o151_6]) dX9_walk_172 rfl rfl rfl rfl ?_
        refine w_ic dX9_walk_173 zi_1 ?_
        refine w_lo (ml' := [some (.ref 386), some (.int v151_1), some (.int v151_2), some (.int x70), some (.int 1), some (.int u151_5), o151_6]) dX9_walk_174 rfl rfl rfl rfl ?_
        refine w_lo dX9_walk_176 rfl rfl rfl rfl ?_
        refine w_ic dX9_walk_177 zi_1 ?_
        refine w_sub dX9_walk_178 (by have := zt_1; omega) ?_
        intro x71 h72
        have := zt_1
        refine w_lo (ml' := [some (.ref 386), some (.int v151_1), some (.int v151_2), some (.int x70), some (.int 1), some (.int x71), o151_6]) dX9_walk_179 rfl rfl rfl rfl ?_
        exact ih181 M v151_1 v151_2 x70 1 x71 o151_6 hJ (by omega) (by omega) (zbot _) (ztop _) (by have := zt_1; omega) (by have := zt_1; omega) (by omega) (by omega) (by have := zt_1; omega)
      · intro M u181_1 v181_2 v181_3 v181_4 v181_5 o181_6 hJ v181_20 v181_21 v181_30 v181_31 v181_40 v181_41 v181_50 v181_51 hn
        refine w_lo dX9_walk_181 rfl rfl rfl rfl ?_
        rcases zcut v181_5.toInt (0 : Int) with h73 | h73
        · skip
          refine w_ilt_t dX9_walk_183 (t := 280) rfl (by omega) ?_
          refine w_lo dX9_walk_280 rfl rfl rfl rfl ?_
          refine w_eni dX9_walk_281 rfl rfl ?_
          exact ⟨_, _, rfl, (by omega), (by omega), hJ, trivial⟩
        · skip
          refine w_ilt_f dX9_walk_183 (t := 280) rfl (by omega) ?_
          refine w_lo dX9_walk_186 rfl rfl rfl rfl ?_
          rcases Int.decEq v181_4.toInt (0 : Int) with h74 | h74
          · skip
            refine w_ieq_f dX9_walk_188 (t := 280) rfl (by omega) ?_
            refine w_lo dX9_walk_191 rfl rfl rfl rfl ?_
            refine w_gf dX9_walk_192 rfl hJ.1.1 zs_386 (zr_386_15 hJ.1) ?_
            refine w_bi dX9_walk_195 (c := 12) (by decide) ?_
            refine w_lo dX9_walk_197 rfl rfl rfl rfl ?_
            refine w_gfi dX9_walk_198 rfl hJ.1 zs_386 (Nat.le_of_ble_eq_true rfl) zo_386_12 ?_
            intro x75 f76 h77 h78
            refine w_mulc dX9_walk_201 zt_12 (by have := zt_12; omega) ?_
            intro x79 h80
            have := zt_12
            refine w_lo dX9_walk_202 rfl rfl rfl rfl ?_
            refine w_gf dX9_walk_203 rfl hJ.1.1 zs_386 (zr_386_50 hJ.1) ?_
            refine w_lo dX9_walk_206 rfl rfl rfl rfl ?_
            refine w_iai dX9_walk_208 hJ.1 zs_419 (by omega) (by omega) zu_419 ?_
            intro x84 f81 h82 h83
            refine w_add dX9_walk_209 (by omega) ?_
            intro x85 h86
            refine w_iai dX9_walk_210 hJ.1 zs_390 (by omega) (by omega) zu_390 ?_
            intro x90 f87 h88 h89
            refine w_lo (ml' := [some (.ref 386), some (.int u181_1), some (.int v181_2), some (.int v181_3), some (.int v181_4), some (.int v181_5), some (.int x90)]) dX9_walk_211 rfl rfl rfl rfl ?_
            refine w_lo dX9_walk_213 rfl rfl rfl rfl ?_
            refine w_gf dX9_walk_214 rfl hJ.1.1 zs_386 (zr_386_60 hJ.1) ?_
            refine w_lo dX9_walk_217 rfl rfl rfl rfl ?_
            refine w_iai dX9_walk_219 hJ.1 zs_429 (by omega) (by omega) zu_429 ?_
            intro x94 f91 h92 h93
            refine w_ic dX9_walk_220 zi_1 ?_
            rcases Int.decEq x94.toInt (1 : Int) with h95 | h95
            · skip
              refine w_cne_t dX9_walk_221 (t := 242) rfl (by have := zt_1; omega) ?_
              exact ih242 M u181_1 v181_2 v181_3 v181_4 v181_5 x90 hJ (by omega) (by omega) (zbot _) (ztop _) (by omega) (by omega) (zbot _) (ztop _) (by omega)
            · skip
              refine w_cne_f dX9_walk_221 (t := 242) rfl (by have := zt_1; omega) ?_
              refine w_lo dX9_walk_224 rfl rfl rfl rfl ?_
              refine w_lo dX9_walk_225 rfl rfl rfl rfl ?_
              refine w_gf dX9_walk_226 rfl hJ.1.1 zs_386 (zr_386_61 hJ.1) ?_
              refine w_lo dX9_walk_229 rfl rfl rfl rfl ?_
              refine w_iai dX9_walk_231 hJ.1 zs_430 (by omega) (by omega) zu_430 ?_
              intro x99 f96 h97 h98
              refine w_puI dX9_walk_232 rfl rfl ?_
              intro x100
              refine w_lo dX9_walk_233 rfl rfl rfl rfl ?_
              rcases zcut x100.toInt x90.toInt with h101 | h101
              · skip
                refine w_clt_t dX9_walk_235 (t := 242) rfl (by omega) ?_
                exact ih242 M u181_1 v181_2 v181_3 v181_4 v181_5 x90 hJ (by omega) (by omega) (zbot _) (ztop _) (by omega) (by omega) (zbot _) (ztop _) (by omega)
              · skip
                refine w_clt_f dX9_walk_235 (t := 242) rfl (by omega) ?_
                refine w_ic dX9_walk_238 zi_1 ?_
                refine w_gt dX9_walk_239 (t := 243) rfl ?_
                refine w_lo (ml' := [some (.ref 386), some (.int u181_1), some (.int v181_2), some (.int v181_3), some (.int 1), some (.int v181_5), some (.int x90)]) dX9_walk_243 rfl rfl rfl rfl ?_
                refine w_lo dX9_walk_245 rfl rfl rfl rfl ?_
                refine w_lo dX9_walk_246 rfl rfl rfl rfl ?_
                refine w_ieq_f dX9_walk_248 (t := 258) rfl (by have := zt_1; omega) ?_
                refine w_ic dX9_walk_251 zi_1 ?_
                refine w_lo dX9_walk_252 rfl rfl rfl rfl ?_
                refine w_shl dX9_walk_254 (by omega) (by omega) (m := 10) (by omega) ?_
                intro x102 h103 h104
                have : (2 : Int) ^ 10 = 1024 := by decide
                refine w_gt dX9_walk_255 (t := 259) rfl ?_
                refine w_or dX9_walk_259 (m := 12) (by decide) (by omega) (by omega) (by omega) (by omega) ?_
                intro x105 h106 h107
                have : (2 : Int) ^ 12 = 4096 := by decide
                refine w_lo (ml' := [some (.ref 386), some (.int u181_1), some (.int x105), some (.int v181_3), some (.int 1), some (.int v181_5), some (.int x90)]) dX9_walk_260 rfl rfl rfl rfl ?_
                refine w_lo dX9_walk_261 rfl rfl rfl rfl ?_
                refine w_lo dX9_walk_262 rfl rfl rfl rfl ?_
                refine w_gf dX9_walk_263 rfl hJ.1.1 zs_386 (zr_386_61 hJ.1) ?_
                refine w_lo dX9_walk_266 rfl rfl rfl rfl ?_
                refine w_ia dX9_walk_268 hJ.1.1 zs_430 (znat (by omega)) f96 ?_
                refine w_lo dX9_walk_269 rfl rfl rfl rfl ?_
                refine w_puI dX9_walk_271 rfl rfl ?_
                intro x111
                refine w_puI dX9_walk_272 rfl rfl ?_
                intro x112
                refine w_lo (ml' := [some (.ref 386), some (.int u181_1), some (.int x105), some (.int x112), some (.int 1), some (.int v181_5), some (.int x90)]) dX9_walk_273 rfl rfl rfl rfl ?_
                refine w_inc (kk := 5) dX9_walk_274 rfl (m := -1) (by decide) (by omega) ?_
                intro x113 h114
                refine ⟨_, rfl, ?_⟩
                show ZW _ _ _ _ _ _ _ (277, [some (.ref 386), some (.int u181_1), some (.int x105), some (.int x112), some (.int 1), some (.int x113), some (.int x90)], [], M)
                refine w_gt dX9_walk_277 (t := 181) rfl ?_
                exact ih181 M u181_1 x105 x112 1 x113 (some (.int x90)) hJ (by omega) (by omega) (zbot _) (ztop _) (by have := zt_1; omega) (by have := zt_1; omega) (by omega) (by omega) (by have := zt_1; omega)
          · skip
            refine w_ieq_t dX9_walk_188 (t := 280) rfl (by omega) ?_
            refine w_lo dX9_walk_280 rfl rfl rfl rfl ?_
            refine w_eni dX9_walk_281 rfl rfl ?_
            exact ⟨_, _, rfl, (by omega), (by omega), hJ, trivial⟩
      · intro M u242_1 v242_2 v242_3 u242_4 v242_5 v242_6 hJ v242_20 v242_21 v242_30 v242_31 v242_50 v242_51 v242_60 v242_61 hn
        refine w_ic dX9_walk_242 zi_0 ?_
        refine w_lo (ml' := [some (.ref 386), some (.int u242_1), some (.int v242_2), some (.int v242_3), some (.int 0), some (.int v242_5), some (.int v242_6)]) dX9_walk_243 rfl rfl rfl rfl ?_
        refine w_lo dX9_walk_245 rfl rfl rfl rfl ?_
        refine w_lo dX9_walk_246 rfl rfl rfl rfl ?_
        refine w_ieq_t dX9_walk_248 (t := 258) rfl (by have := zt_0; omega) ?_
        refine w_ic dX9_walk_258 zi_0 ?_
        refine w_or dX9_walk_259 (m := 12) (by decide) (by omega) (by omega) (by have := zt_0; omega) (by have := zt_0; omega) ?_
        intro x115 h116 h117
        have : (2 : Int) ^ 12 = 4096 := by decide
        refine w_lo (ml' := [some (.ref 386), some (.int u242_1), some (.int x115), some (.int v242_3), some (.int 0), some (.int v242_5), some (.int v242_6)]) dX9_walk_260 rfl rfl rfl rfl ?_
        refine w_lo dX9_walk_261 rfl rfl rfl rfl ?_
        refine w_lo dX9_walk_262 rfl rfl rfl rfl ?_
        refine w_gf dX9_walk_263 rfl hJ.1.1 zs_386 (zr_386_61 hJ.1) ?_
        refine w_lo dX9_walk_266 rfl rfl rfl rfl ?_
        refine w_iai dX9_walk_268 hJ.1 zs_430 (by omega) (by omega) zu_430 ?_
        intro x121 f118 h119 h120
        refine w_lo dX9_walk_269 rfl rfl rfl rfl ?_
        refine w_puI dX9_walk_271 rfl rfl ?_
        intro x122
        refine w_puI dX9_walk_272 rfl rfl ?_
        intro x123
        refine w_lo (ml' := [some (.ref 386), some (.int u242_1), some (.int x115), some (.int x123), some (.int 0), some (.int v242_5), some (.int v242_6)]) dX9_walk_273 rfl rfl rfl rfl ?_
        refine w_inc (kk := 5) dX9_walk_274 rfl (m := -1) (by decide) (by omega) ?_
        intro x124 h125
        refine ⟨_, rfl, ?_⟩
        show ZW _ _ _ _ _ _ _ (277, [some (.ref 386), some (.int u242_1), some (.int x115), some (.int x123), some (.int 0), some (.int x124), some (.int v242_6)], [], M)
        refine w_gt dX9_walk_277 (t := 181) rfl ?_
        exact ih181 M u242_1 x115 x123 0 x124 (some (.int v242_6)) hJ (by omega) (by omega) (zbot _) (ztop _) (by have := zt_0; omega) (by have := zt_0; omega) (by omega) (by omega) (by have := zt_0; omega)
  obtain ⟨ih42, ih111, ih128, ih151, ih181, ih242⟩ := main 219
  show ZW _ _ _ _ _ _ _ (0, [some (.ref 386), some (.int a0), none, none, none, none, none], [], M0)
  refine w_lo dX9_walk_0 rfl rfl rfl rfl ?_
  refine w_lo dX9_walk_1 rfl rfl rfl rfl ?_
  refine w_iv dX9_walk_2 rfl rfl (As := [.int a0]) rfl rfl hJ0.1.1 zs_386 (Nat.le_of_ble_eq_true rfl) ?_
  refine ZV.of (ini := false) rfl (Nat.le_of_ble_eq_true rfl) (by decide +kernel) ?_
  show ZW _ _ _ _ _ _ _ (0, [some (.ref 386), some (.int a0)], [], M0)
  refine w_lo dX9_isBoy_0 rfl rfl rfl rfl ?_
  rcases zcut a0.toInt (0 : Int) with h126 | h126
  · skip
    refine w_ilt_t dX9_isBoy_1 (t := 21) rfl (by omega) ?_
    refine w_ic dX9_isBoy_21 zi_0 ?_
    refine w_en dX9_isBoy_22 rfl ?_
    show ZW _ _ _ _ _ _ _ (5, [some (.ref 386), some (.int a0), none, none, none, none, none], [.int 0], M0)
    refine w_ine_f dX9_walk_5 (t := 10) rfl (by have := zt_0; omega) ?_
    refine w_ic dX9_walk_8 zi_m1 ?_
    refine w_en dX9_walk_9 rfl ?_
    exact ⟨_, _, rfl, (by have := zt_m1; omega), (by have := zt_m1; omega), hJ0, trivial⟩
  · skip
    refine w_ilt_f dX9_isBoy_1 (t := 21) rfl (by omega) ?_
    refine w_lo dX9_isBoy_4 rfl rfl rfl rfl ?_
    refine w_lo dX9_isBoy_5 rfl rfl rfl rfl ?_
    refine w_gf dX9_isBoy_6 rfl hJ0.1.1 zs_386 (zr_386_13 hJ0.1) ?_
    refine w_lo dX9_isBoy_9 rfl rfl rfl rfl ?_
    refine w_gfi dX9_isBoy_10 rfl hJ0.1 zs_386 (Nat.le_of_ble_eq_true rfl) zo_386_12 ?_
    intro x127 f128 h129 h130
    refine w_iai dX9_isBoy_13 hJ0.1 zs_388 (by omega) (by omega) zu_388 ?_
    intro x134 f131 h132 h133
    rcases zcut a0.toInt x134.toInt with h135 | h135
    · skip
      refine w_cge_f dX9_isBoy_14 (t := 21) rfl (by omega) ?_
      refine w_ic dX9_isBoy_17 zi_1 ?_
      refine w_gt dX9_isBoy_18 (t := 22) rfl ?_
      refine w_en dX9_isBoy_22 rfl ?_
      show ZW _ _ _ _ _ _ _ (5, [some (.ref 386), some (.int a0), none, none, none, none, none], [.int 1], M0)
      refine w_ine_t dX9_walk_5 (t := 10) rfl (by have := zt_1; omega) ?_
      refine w_ic dX9_walk_10 zi_0 ?_
      refine w_lo (ml' := [some (.ref 386), some (.int a0), some (.int 0), none, none, none, none]) dX9_walk_11 rfl rfl rfl rfl ?_
      refine w_ic dX9_walk_12 zi_3 ?_
      refine w_lo dX9_walk_13 rfl rfl rfl rfl ?_
      refine w_gf dX9_walk_14 rfl hJ0.1.1 zs_386 (zr_386_15 hJ0.1) ?_
      refine w_bi dX9_walk_17 (c := 12) (by decide) ?_
      refine w_lo dX9_walk_19 rfl rfl rfl rfl ?_
      refine w_gf dX9_walk_20 rfl hJ0.1.1 zs_386 f128 ?_
      refine w_mulc dX9_walk_23 zt_12 (by have := zt_12; omega) ?_
      intro x136 h137
      have := zt_12
      refine w_lo dX9_walk_24 rfl rfl rfl rfl ?_
      refine w_gf dX9_walk_25 rfl hJ0.1.1 zs_386 (zr_386_50 hJ0.1) ?_
      refine w_lo dX9_walk_28 rfl rfl rfl rfl ?_
      refine w_iai dX9_walk_29 hJ0.1 zs_419 (by omega) (by omega) zu_419 ?_
      intro x141 f138 h139 h140
      refine w_add dX9_walk_30 (by omega) ?_
      intro x142 h143
      refine w_iai dX9_walk_31 hJ0.1 zs_390 (by omega) (by omega) zu_390 ?_
      intro x147 f144 h145 h146
      refine w_puI dX9_walk_32 rfl rfl ?_
      intro x148
      refine w_lo (ml' := [some (.ref 386), some (.int a0), some (.int 0), some (.int x148), none, none, none]) dX9_walk_33 rfl rfl rfl rfl ?_
      refine w_ic dX9_walk_34 zi_1 ?_
      refine w_lo (ml' := [some (.ref 386), some (.int a0), some (.int 0), some (.int x148), some (.int 1), none, none]) dX9_walk_35 rfl rfl rfl rfl ?_
      refine w_lo dX9_walk_37 rfl rfl rfl rfl ?_
      refine w_ic dX9_walk_38 zi_1 ?_
      refine w_add dX9_walk_39 (by have := zt_1; omega) ?_
      intro x149 h150
      have := zt_1
      refine w_lo (ml' := [some (.ref 386), some (.int a0), some (.int 0), some (.int x148), some (.int 1), some (.int x149), none]) dX9_walk_40 rfl rfl rfl rfl ?_
      exact ih42 M0 a0 0 x148 1 x149 none hJ0 (by omega) (by omega) (by have := zt_0; omega) (by have := zt_0; omega) (zbot _) (ztop _) (by have := zt_1; omega) (by have := zt_1; omega) (by omega) (by omega) (by have := zt_0; have := zt_1; omega)
    · skip
      refine w_cge_t dX9_isBoy_14 (t := 21) rfl (by omega) ?_
      refine w_ic dX9_isBoy_21 zi_0 ?_
      refine w_en dX9_isBoy_22 rfl ?_
      show ZW _ _ _ _ _ _ _ (5, [some (.ref 386), some (.int a0), none, none, none, none, none], [.int 0], M0)
      refine w_ine_f dX9_walk_5 (t := 10) rfl (by have := zt_0; omega) ?_
      refine w_ic dX9_walk_8 zi_m1 ?_
      refine w_en dX9_walk_9 rfl ?_
      exact ⟨_, _, rfl, (by have := zt_m1; omega), (by have := zt_m1; omega), hJ0, trivial⟩
