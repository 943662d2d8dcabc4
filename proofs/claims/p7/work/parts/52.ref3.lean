/-! the reference's methods come to an end, within the box (wip/safe/mks.py) -/
set_option maxRecDepth 100000 in
theorem k_2351 {X : List Int32} {d N : Nat} {M0 : zM} (a0 : Int32) (a1 : Int32) (a2 : Int32) (hN : N ≤ 600) (hB0 : zB N M0) : ZV X (d + 2) 2351 [.ref 386, .int a0, .int a1, .int a2] M0 (zRI N [] M0 (-2147483648) (2147483647) (fun _ _ => True)) := by
  have hJ0 : zJ N [] M0 M0 := zJ_refl hB0
  refine ZV.of (ini := false) rfl (Nat.le_of_ble_eq_true rfl) (by decide +kernel) ?_
  have main : ∀ n : Nat,
      (∀ (M : zM) (o94_0 : Option Value) (u94_1 : Int32) (u94_2 : Int32) (v94_3 : Int32) (y94_4 : Int64) (v94_6 : Int32) (y94_7 : Int64), zJ N [] M0 M → ((0 : Int) ≤ v94_3.toInt) → (v94_3.toInt ≤ 5) → ((-9223372036854775808 : Int) ≤ y94_4.toInt) → (y94_4.toInt ≤ 9223372036854775807) → ((-2147483648 : Int) ≤ v94_6.toInt) → (v94_6.toInt ≤ 2147483647) → ((-9223372036854775808 : Int) ≤ y94_7.toInt) → (y94_7.toInt ≤ 9223372036854775807) → 3 * ((y94_7.toInt.toNat : Int)) + 1 < (n : Int) → ZW X (d + 1) 9 false (some .int) cX9_letter (zRI N [] M0 (-2147483648) (2147483647) (fun _ _ => True)) (94, [o94_0, some (.int u94_1), some (.int u94_2), some (.int v94_3), some (.long y94_4), none, some (.int v94_6), some (.long y94_7), none], [], M)) := by
    intro n
    induction n with
    | zero =>
      exact (fun M o94_0 u94_1 u94_2 v94_3 y94_4 v94_6 y94_7 hJ v94_30 v94_31 y94_40 y94_41 v94_60 v94_61 y94_70 y94_71 hn => absurd hn (by omega))
    | succ n ih =>
      have ih94 := ih
      · intro M o94_0 u94_1 u94_2 v94_3 y94_4 v94_6 y94_7 hJ v94_30 v94_31 y94_40 y94_41 v94_60 v94_61 y94_70 y94_71 hn
        refine w_lo dX9_letter_94 rfl rfl rfl rfl ?_
        refine w_lc dX9_letter_96 (c := (0 : Int64)) (by decide) ?_
        refine w_lcm dX9_letter_97 ?_
        intro x1 h2
        have := ztl_0
        rcases zcut (0 : Int) x1.toInt with h3 | h3
        · skip
          refine w_ile_f dX9_letter_98 (t := 114) rfl (by omega) ?_
          refine w_incT (kk := 6) dX9_letter_101 rfl ?_
          intro x4
          refine ⟨_, rfl, ?_⟩
          show ZW _ _ _ _ _ _ _ (104, [o94_0, some (.int u94_1), some (.int u94_2), some (.int v94_3), some (.long y94_4), none, some (.int x4), some (.long y94_7), none], [], M)
          refine w_lo dX9_letter_104 rfl rfl rfl rfl ?_
          refine w_bi dX9_letter_106 (c := 8) (by decide) ?_
          refine w_lshrP dX9_letter_108 (m := 8) (p := 256) (by decide) (by decide) (by omega) ?_
          intro y6 h7 h8
          refine w_lo (ml' := [o94_0, some (.int u94_1), some (.int u94_2), some (.int v94_3), some (.long y94_4), none, some (.int x4), some (.long y6), none]) dX9_letter_109 rfl rfl rfl rfl ?_
          refine w_gt dX9_letter_111 (t := 94) rfl ?_
          exact ih94 M o94_0 u94_1 u94_2 v94_3 y94_4 x4 y6 hJ (by omega) (by omega) (zlbot _) (zltop _) (zbot _) (ztop _) (zlbot _) (zltop _) (by have := ztop u94_1; have := zbot u94_1; have := ztop u94_2; have := zbot u94_2; have := ztop v94_3; have := zbot v94_3; have := zltop y94_4; have := zlbot y94_4; have := ztop x4; have := zbot x4; have := zltop y6; have := zlbot y6; omega)
        · skip
          refine w_ile_t dX9_letter_98 (t := 114) rfl (by omega) ?_
          refine w_lo dX9_letter_114 rfl rfl rfl rfl ?_
          refine w_lo dX9_letter_115 rfl rfl rfl rfl ?_
          rcases zcut v94_3.toInt v94_6.toInt with h9 | h9
          · skip
            refine w_clt_t dX9_letter_117 (t := 124) rfl (by omega) ?_
            refine w_lo dX9_letter_124 rfl rfl rfl rfl ?_
            refine w_bi dX9_letter_126 (c := 8) (by decide) ?_
            refine w_lo dX9_letter_128 rfl rfl rfl rfl ?_
            refine w_ic dX9_letter_130 zi_1 ?_
            refine w_sub dX9_letter_131 (by have := zt_1; omega) ?_
            intro x10 h11
            have := zt_1
            refine w_lo dX9_letter_132 rfl rfl rfl rfl ?_
            refine w_sub dX9_letter_133 (by omega) ?_
            intro x12 h13
            refine w_puI dX9_letter_134 rfl rfl ?_
            intro x14
            refine w_puL dX9_letter_135 rfl rfl ?_
            intro y15
            refine w_me (st' := [.long (255 : Int64), .long y15]) dX9_letter_136 rfl rfl rfl rfl rfl ?_
            refine w_puL dX9_letter_139 rfl rfl ?_
            intro y16
            refine w_puI dX9_letter_140 rfl rfl ?_
            intro x17
            refine w_bi dX9_letter_141 (c := 97) (by decide) ?_
            refine w_puI dX9_letter_143 rfl rfl ?_
            intro x18
            refine w_ic dX9_letter_144 zi_1 ?_
            refine w_puI dX9_letter_145 rfl rfl ?_
            intro x19
            refine w_eni dX9_letter_146 rfl rfl ?_
            exact ⟨_, _, rfl, (zbot _), (ztop _), hJ, trivial⟩
          · skip
            refine w_clt_f dX9_letter_117 (t := 124) rfl (by omega) ?_
            refine w_ic dX9_letter_120 zi_0 ?_
            refine w_gt dX9_letter_121 (t := 146) rfl ?_
            refine w_en dX9_letter_146 rfl ?_
            exact ⟨_, _, rfl, (zbot _), (ztop _), hJ, trivial⟩
  have ih94 := main 27670116110564327436
  show ZW _ _ _ _ _ _ _ (0, [some (.ref 386), some (.int a0), some (.int a1), some (.int a2), none, none, none, none, none], [], M0)
  refine w_lo dX9_letter_0 rfl rfl rfl rfl ?_
  refine w_ic dX9_letter_1 zi_0 ?_
  refine w_ic dX9_letter_2 zi_1 ?_
  refine w_ss dX9_letter_3 rfl rfl (As := [.int a0, .int 0, .int 1]) rfl rfl (Nat.le_of_ble_eq_true rfl) ?_
  refine ZV.of (ini := false) rfl (Nat.le_of_ble_eq_true rfl) (by decide +kernel) ?_
  show ZW _ _ _ _ _ _ _ (0, [some (.int a0), some (.int 0), some (.int 1)], [], M0)
  refine w_lo dX9_is_0 rfl rfl rfl rfl ?_
  refine w_lo dX9_is_1 rfl rfl rfl rfl ?_
  rcases zcut a0.toInt (0 : Int) with h20 | h20
  · skip
    refine w_clt_t dX9_is_2 (t := 14) rfl (by have := zt_0; omega) ?_
    refine w_ic dX9_is_14 zi_0 ?_
    refine w_en dX9_is_15 rfl ?_
    show ZW _ _ _ _ _ _ _ (6, [some (.ref 386), some (.int a0), some (.int a1), some (.int a2), none, none, none, none, none], [.int 0], M0)
    refine w_ieq_t dX9_letter_6 (t := 48) rfl (by have := zt_0; omega) ?_
    refine w_ic dX9_letter_48 zi_m1 ?_
    refine w_en dX9_letter_49 rfl ?_
    exact ⟨_, _, rfl, (zbot _), (ztop _), hJ0, trivial⟩
  · skip
    refine w_clt_f dX9_is_2 (t := 14) rfl (by have := zt_0; omega) ?_
    refine w_lo dX9_is_5 rfl rfl rfl rfl ?_
    refine w_lo dX9_is_6 rfl rfl rfl rfl ?_
    rcases zcut (1 : Int) a0.toInt with h21 | h21
    · skip
      refine w_cgt_t dX9_is_7 (t := 14) rfl (by have := zt_1; omega) ?_
      refine w_ic dX9_is_14 zi_0 ?_
      refine w_en dX9_is_15 rfl ?_
      show ZW _ _ _ _ _ _ _ (6, [some (.ref 386), some (.int a0), some (.int a1), some (.int a2), none, none, none, none, none], [.int 0], M0)
      refine w_ieq_t dX9_letter_6 (t := 48) rfl (by have := zt_0; omega) ?_
      refine w_ic dX9_letter_48 zi_m1 ?_
      refine w_en dX9_letter_49 rfl ?_
      exact ⟨_, _, rfl, (zbot _), (ztop _), hJ0, trivial⟩
    · skip
      refine w_cgt_f dX9_is_7 (t := 14) rfl (by have := zt_1; omega) ?_
      refine w_ic dX9_is_10 zi_1 ?_
      refine w_gt dX9_is_11 (t := 15) rfl ?_
      refine w_en dX9_is_15 rfl ?_
      show ZW _ _ _ _ _ _ _ (6, [some (.ref 386), some (.int a0), some (.int a1), some (.int a2), none, none, none, none, none], [.int 1], M0)
      refine w_ieq_f dX9_letter_6 (t := 48) rfl (by have := zt_1; omega) ?_
      refine w_lo dX9_letter_9 rfl rfl rfl rfl ?_
      refine w_ic dX9_letter_10 zi_0 ?_
      refine w_lo dX9_letter_11 rfl rfl rfl rfl ?_
      rcases Int.decEq a0.toInt (0 : Int) with h22 | h22
      · skip
        refine w_ine_t dX9_letter_12 (t := 22) rfl (by omega) ?_
        refine w_lo dX9_letter_22 rfl rfl rfl rfl ?_
        refine w_gf dX9_letter_23 rfl hJ0.1.1 zs_386 (zr_386_21 hJ0.1) ?_
        refine w_lo dX9_letter_26 rfl rfl rfl rfl ?_
        refine w_gfi dX9_letter_27 rfl hJ0.1 zs_386 (Nat.le_of_ble_eq_true rfl) zo_386_12 ?_
        intro x23 f24 h25 h26
        refine w_iai dX9_letter_30 hJ0.1 zs_396 (by omega) (by omega) zu_396 ?_
        intro x30 f27 h28 h29
        refine w_ic dX9_letter_31 zi_1 ?_
        refine w_sub dX9_letter_32 (by have := zt_1; omega) ?_
        intro x31 h32
        have := zt_1
        refine w_ss dX9_letter_33 rfl rfl (As := [.int a1, .int 0, .int x31]) rfl rfl (Nat.le_of_ble_eq_true rfl) ?_
        refine ZV.of (ini := false) rfl (Nat.le_of_ble_eq_true rfl) (by decide +kernel) ?_
        show ZW _ _ _ _ _ _ _ (0, [some (.int a1), some (.int 0), some (.int x31)], [], M0)
        refine w_lo dX9_is_0 rfl rfl rfl rfl ?_
        refine w_lo dX9_is_1 rfl rfl rfl rfl ?_
        rcases zcut a1.toInt (0 : Int) with h33 | h33
        · skip
          refine w_clt_t dX9_is_2 (t := 14) rfl (by have := zt_0; omega) ?_
          refine w_ic dX9_is_14 zi_0 ?_
          refine w_en dX9_is_15 rfl ?_
          show ZW _ _ _ _ _ _ _ (36, [some (.ref 386), some (.int a0), some (.int a1), some (.int a2), none, none, none, none, none], [.int 0], M0)
          refine w_ieq_t dX9_letter_36 (t := 48) rfl (by have := zt_0; omega) ?_
          refine w_ic dX9_letter_48 zi_m1 ?_
          refine w_en dX9_letter_49 rfl ?_
          exact ⟨_, _, rfl, (zbot _), (ztop _), hJ0, trivial⟩
        · skip
          refine w_clt_f dX9_is_2 (t := 14) rfl (by have := zt_0; omega) ?_
          refine w_lo dX9_is_5 rfl rfl rfl rfl ?_
          refine w_lo dX9_is_6 rfl rfl rfl rfl ?_
          rcases zcut x31.toInt a1.toInt with h34 | h34
          · skip
            refine w_cgt_t dX9_is_7 (t := 14) rfl (by omega) ?_
            refine w_ic dX9_is_14 zi_0 ?_
            refine w_en dX9_is_15 rfl ?_
            show ZW _ _ _ _ _ _ _ (36, [some (.ref 386), some (.int a0), some (.int a1), some (.int a2), none, none, none, none, none], [.int 0], M0)
            refine w_ieq_t dX9_letter_36 (t := 48) rfl (by have := zt_0; omega) ?_
            refine w_ic dX9_letter_48 zi_m1 ?_
            refine w_en dX9_letter_49 rfl ?_
            exact ⟨_, _, rfl, (zbot _), (ztop _), hJ0, trivial⟩
          · skip
            refine w_cgt_f dX9_is_7 (t := 14) rfl (by omega) ?_
            refine w_ic dX9_is_10 zi_1 ?_
            refine w_gt dX9_is_11 (t := 15) rfl ?_
            refine w_en dX9_is_15 rfl ?_
            show ZW _ _ _ _ _ _ _ (36, [some (.ref 386), some (.int a0), some (.int a1), some (.int a2), none, none, none, none, none], [.int 1], M0)
            refine w_ieq_f dX9_letter_36 (t := 48) rfl (by have := zt_1; omega) ?_
            refine w_lo dX9_letter_39 rfl rfl rfl rfl ?_
            refine w_ic dX9_letter_40 zi_0 ?_
            refine w_ic dX9_letter_41 zi_5 ?_
            refine w_ss dX9_letter_42 rfl rfl (As := [.int a2, .int 0, .int 5]) rfl rfl (Nat.le_of_ble_eq_true rfl) ?_
            refine ZV.of (ini := false) rfl (Nat.le_of_ble_eq_true rfl) (by decide +kernel) ?_
            show ZW _ _ _ _ _ _ _ (0, [some (.int a2), some (.int 0), some (.int 5)], [], M0)
            refine w_lo dX9_is_0 rfl rfl rfl rfl ?_
            refine w_lo dX9_is_1 rfl rfl rfl rfl ?_
            rcases zcut a2.toInt (0 : Int) with h35 | h35
            · skip
              refine w_clt_t dX9_is_2 (t := 14) rfl (by have := zt_0; omega) ?_
              refine w_ic dX9_is_14 zi_0 ?_
              refine w_en dX9_is_15 rfl ?_
              show ZW _ _ _ _ _ _ _ (45, [some (.ref 386), some (.int a0), some (.int a1), some (.int a2), none, none, none, none, none], [.int 0], M0)
              refine w_ine_f dX9_letter_45 (t := 50) rfl (by have := zt_0; omega) ?_
              refine w_ic dX9_letter_48 zi_m1 ?_
              refine w_en dX9_letter_49 rfl ?_
              exact ⟨_, _, rfl, (zbot _), (ztop _), hJ0, trivial⟩
            · skip
              refine w_clt_f dX9_is_2 (t := 14) rfl (by have := zt_0; omega) ?_
              refine w_lo dX9_is_5 rfl rfl rfl rfl ?_
              refine w_lo dX9_is_6 rfl rfl rfl rfl ?_
              rcases zcut (5 : Int) a2.toInt with h36 | h36
              · skip
                refine w_cgt_t dX9_is_7 (t := 14) rfl (by have := zt_5; omega) ?_
                refine w_ic dX9_is_14 zi_0 ?_
                refine w_en dX9_is_15 rfl ?_
                show ZW _ _ _ _ _ _ _ (45, [some (.ref 386), some (.int a0), some (.int a1), some (.int a2), none, none, none, none, none], [.int 0], M0)
                refine w_ine_f dX9_letter_45 (t := 50) rfl (by have := zt_0; omega) ?_
                refine w_ic dX9_letter_48 zi_m1 ?_
                refine w_en dX9_letter_49 rfl ?_
                exact ⟨_, _, rfl, (zbot _), (ztop _), hJ0, trivial⟩
              · skip
                refine w_cgt_f dX9_is_7 (t := 14) rfl (by have := zt_5; omega) ?_
                refine w_ic dX9_is_10 zi_1 ?_
                refine w_gt dX9_is_11 (t := 15) rfl ?_
                refine w_en dX9_is_15 rfl ?_
                show ZW _ _ _ _ _ _ _ (45, [some (.ref 386), some (.int a0), some (.int a1), some (.int a2), none, none, none, none, none], [.int 1], M0)
                refine w_ine_t dX9_letter_45 (t := 50) rfl (by have := zt_1; omega) ?_
                refine w_lo dX9_letter_50 rfl rfl rfl rfl ?_
                refine w_ine_t dX9_letter_51 (t := 71) rfl (by omega) ?_
                refine w_lo dX9_letter_71 rfl rfl rfl rfl ?_
                refine w_gf dX9_letter_72 rfl hJ0.1.1 zs_386 (zr_386_22 hJ0.1) ?_
                refine w_bi dX9_letter_75 (c := 6) (by decide) ?_
                refine w_lo dX9_letter_77 rfl rfl rfl rfl ?_
                refine w_gf dX9_letter_78 rfl hJ0.1.1 zs_386 f24 ?_
                refine w_mulc dX9_letter_81 zt_6 (by have := zt_6; omega) ?_
                intro x37 h38
                have := zt_6
                refine w_lo dX9_letter_82 rfl rfl rfl rfl ?_
                refine w_add dX9_letter_83 (by omega) ?_
                intro x39 h40
                refine w_lal dX9_letter_84 hJ0.1 zs_397 (by omega) (by omega) zu_397 ?_
                intro y44 f41
                refine w_lo (ml' := [some (.ref 386), some (.int a0), some (.int a1), some (.int a2), some (.long y44), none, none, none, none]) dX9_letter_85 rfl rfl rfl rfl ?_
                refine w_ic dX9_letter_87 zi_0 ?_
                refine w_lo (ml' := [some (.ref 386), some (.int a0), some (.int a1), some (.int a2), some (.long y44), none, some (.int 0), none, none]) dX9_letter_88 rfl rfl rfl rfl ?_
                refine w_lo dX9_letter_90 rfl rfl rfl rfl ?_
                refine w_lo (ml' := [some (.ref 386), some (.int a0), some (.int a1), some (.int a2), some (.long y44), none, some (.int 0), some (.long y44), none]) dX9_letter_92 rfl rfl rfl rfl ?_
                exact ih94 M0 (some (.ref 386)) a0 a1 a2 y44 0 y44 hJ0 (by omega) (by omega) (zlbot _) (zltop _) (zbot _) (ztop _) (zlbot _) (zltop _) (by have := zt_0; have := ztop a0; have := zbot a0; have := ztop a1; have := zbot a1; have := ztop a2; have := zbot a2; have := zltop y44; have := zlbot y44; omega)
      · skip
        refine w_ine_f dX9_letter_12 (t := 22) rfl (by omega) ?_
        refine w_lo dX9_letter_15 rfl rfl rfl rfl ?_
        refine w_iv dX9_letter_16 rfl rfl (As := []) rfl rfl hJ0.1.1 zs_386 (Nat.le_of_ble_eq_true rfl) ?_
        refine ZV.of (ini := false) rfl (Nat.le_of_ble_eq_true rfl) (by decide +kernel) ?_
        show ZW _ _ _ _ _ _ _ (0, [some (.ref 386)], [], M0)
        refine w_lo dX9_many_0 rfl rfl rfl rfl ?_
        refine w_gf dX9_many_1 rfl hJ0.1.1 zs_386 (zr_386_13 hJ0.1) ?_
        refine w_lo dX9_many_4 rfl rfl rfl rfl ?_
        refine w_gfi dX9_many_5 rfl hJ0.1 zs_386 (Nat.le_of_ble_eq_true rfl) zo_386_12 ?_
        intro x45 f46 h47 h48
        refine w_iai dX9_many_8 hJ0.1 zs_388 (by omega) (by omega) zu_388 ?_
        intro x52 f49 h50 h51
        refine w_eni dX9_many_9 rfl rfl ?_
        show ZW _ _ _ _ _ _ _ (19, [some (.ref 386), some (.int a0), some (.int a1), some (.int a2), none, none, none, none, none], [.int x52, .int 0, .int a1], M0)
        refine w_gt dX9_letter_19 (t := 31) rfl ?_
        refine w_ic dX9_letter_31 zi_1 ?_
        refine w_sub dX9_letter_32 (by have := zt_1; omega) ?_
        intro x53 h54
        have := zt_1
        refine w_ss dX9_letter_33 rfl rfl (As := [.int a1, .int 0, .int x53]) rfl rfl (Nat.le_of_ble_eq_true rfl) ?_
        refine ZV.of (ini := false) rfl (Nat.le_of_ble_eq_true rfl) (by decide +kernel) ?_
        show ZW _ _ _ _ _ _ _ (0, [some (.int a1), some (.int 0), some (.int x53)], [], M0)
        refine w_lo dX9_is_0 rfl rfl rfl rfl ?_
        refine w_lo dX9_is_1 rfl rfl rfl rfl ?_
        rcases zcut a1.toInt (0 : Int) with h55 | h55
        · skip
          refine w_clt_t dX9_is_2 (t := 14) rfl (by have := zt_0; omega) ?_
          refine w_ic dX9_is_14 zi_0 ?_
          refine w_en dX9_is_15 rfl ?_
          show ZW _ _ _ _ _ _ _ (36, [some (.ref 386), some (.int a0), some (.int a1), some (.int a2), none, none, none, none, none], [.int 0], M0)
          refine w_ieq_t dX9_letter_36 (t := 48) rfl (by have := zt_0; omega) ?_
          refine w_ic dX9_letter_48 zi_m1 ?_
          refine w_en dX9_letter_49 rfl ?_
          exact ⟨_, _, rfl, (zbot _), (ztop _), hJ0, trivial⟩
        · skip
          refine w_clt_f dX9_is_2 (t := 14) rfl (by have := zt_0; omega) ?_
          refine w_lo dX9_is_5 rfl rfl rfl rfl ?_
          refine w_lo dX9_is_6 rfl rfl rfl rfl ?_
          rcases zcut x53.toInt a1.toInt with h56 | h56
          · skip
            refine w_cgt_t dX9_is_7 (t := 14) rfl (by omega) ?_
            refine w_ic dX9_is_14 zi_0 ?_
            refine w_en dX9_is_15 rfl ?_
            show ZW _ _ _ _ _ _ _ (36, [some (.ref 386), some (.int a0), some (.int a1), some (.int a2), none, none, none, none, none], [.int 0], M0)
            refine w_ieq_t dX9_letter_36 (t := 48) rfl (by have := zt_0; omega) ?_
            refine w_ic dX9_letter_48 zi_m1 ?_
            refine w_en dX9_letter_49 rfl ?_
            exact ⟨_, _, rfl, (zbot _), (ztop _), hJ0, trivial⟩
          · skip
            refine w_cgt_f dX9_is_7 (t := 14) rfl (by omega) ?_
            refine w_ic dX9_is_10 zi_1 ?_
            refine w_gt dX9_is_11 (t := 15) rfl ?_
            refine w_en dX9_is_15 rfl ?_
            show ZW _ _ _ _ _ _ _ (36, [some (.ref 386), some (.int a0), some (.int a1), some (.int a2), none, none, none, none, none], [.int 1], M0)
            refine w_ieq_f dX9_letter_36 (t := 48) rfl (by have := zt_1; omega) ?_
            refine w_lo dX9_letter_39 rfl rfl rfl rfl ?_
            refine w_ic dX9_letter_40 zi_0 ?_
            refine w_ic dX9_letter_41 zi_5 ?_
            refine w_ss dX9_letter_42 rfl rfl (As := [.int a2, .int 0, .int 5]) rfl rfl (Nat.le_of_ble_eq_true rfl) ?_
            refine ZV.of (ini := false) rfl (Nat.le_of_ble_eq_true rfl) (by decide +kernel) ?_
            show ZW _ _ _ _ _ _ _ (0, [some (.int a2), some (.int 0), some (.int 5)], [], M0)
            refine w_lo dX9_is_0 rfl rfl rfl rfl ?_
            refine w_lo dX9_is_1 rfl rfl rfl rfl ?_
            rcases zcut a2.toInt (0 : Int) with h57 | h57
            · skip
              refine w_clt_t dX9_is_2 (t := 14) rfl (by have := zt_0; omega) ?_
              refine w_ic dX9_is_14 zi_0 ?_
              refine w_en dX9_is_15 rfl ?_
              show ZW _ _ _ _ _ _ _ (45, [some (.ref 386), some (.int a0), some (.int a1), some (.int a2), none, none, none, none, none], [.int 0], M0)
              refine w_ine_f dX9_letter_45 (t := 50) rfl (by have := zt_0; omega) ?_
              refine w_ic dX9_letter_48 zi_m1 ?_
              refine w_en dX9_letter_49 rfl ?_
              exact ⟨_, _, rfl, (zbot _), (ztop _), hJ0, trivial⟩
            · skip
              refine w_clt_f dX9_is_2 (t := 14) rfl (by have := zt_0; omega) ?_
              refine w_lo dX9_is_5 rfl rfl rfl rfl ?_
              refine w_lo dX9_is_6 rfl rfl rfl rfl ?_
              rcases zcut (5 : Int) a2.toInt with h58 | h58
              · skip
                refine w_cgt_t dX9_is_7 (t := 14) rfl (by have := zt_5; omega) ?_
                refine w_ic dX9_is_14 zi_0 ?_
                refine w_en dX9_is_15 rfl ?_
                show ZW _ _ _ _ _ _ _ (45, [some (.ref 386), some (.int a0), some (.int a1), some (.int a2), none, none, none, none, none], [.int 0], M0)
                refine w_ine_f dX9_letter_45 (t := 50) rfl (by have := zt_0; omega) ?_
                refine w_ic dX9_letter_48 zi_m1 ?_
                refine w_en dX9_letter_49 rfl ?_
                exact ⟨_, _, rfl, (zbot _), (ztop _), hJ0, trivial⟩
              · skip
                refine w_cgt_f dX9_is_7 (t := 14) rfl (by have := zt_5; omega) ?_
                refine w_ic dX9_is_10 zi_1 ?_
                refine w_gt dX9_is_11 (t := 15) rfl ?_
                refine w_en dX9_is_15 rfl ?_
                show ZW _ _ _ _ _ _ _ (45, [some (.ref 386), some (.int a0), some (.int a1), some (.int a2), none, none, none, none, none], [.int 1], M0)
                refine w_ine_t dX9_letter_45 (t := 50) rfl (by have := zt_1; omega) ?_
                refine w_lo dX9_letter_50 rfl rfl rfl rfl ?_
                refine w_ine_f dX9_letter_51 (t := 71) rfl (by omega) ?_
                refine w_lo dX9_letter_54 rfl rfl rfl rfl ?_
                refine w_gf dX9_letter_55 rfl hJ0.1.1 zs_386 (zr_386_14 hJ0.1) ?_
                refine w_bi dX9_letter_58 (c := 12) (by decide) ?_
                refine w_lo dX9_letter_60 rfl rfl rfl rfl ?_
                refine w_gf dX9_letter_61 rfl hJ0.1.1 zs_386 f46 ?_
                refine w_mulc dX9_letter_64 zt_12 (by have := zt_12; omega) ?_
                intro x59 h60
                have := zt_12
                refine w_lo dX9_letter_65 rfl rfl rfl rfl ?_
                refine w_add dX9_letter_66 (by omega) ?_
                intro x61 h62
                refine w_lal dX9_letter_67 hJ0.1 zs_389 (by omega) (by omega) zu_389 ?_
                intro y66 f63
                refine w_gt dX9_letter_68 (t := 85) rfl ?_
                refine w_lo (ml' := [some (.ref 386), some (.int a0), some (.int a1), some (.int a2), some (.long y66), none, none, none, none]) dX9_letter_85 rfl rfl rfl rfl ?_
                refine w_ic dX9_letter_87 zi_0 ?_
                refine w_lo (ml' := [some (.ref 386), some (.int a0), some (.int a1), some (.int a2), some (.long y66), none, some (.int 0), none, none]) dX9_letter_88 rfl rfl rfl rfl ?_
                refine w_lo dX9_letter_90 rfl rfl rfl rfl ?_
                refine w_lo (ml' := [some (.ref 386), some (.int a0), some (.int a1), some (.int a2), some (.long y66), none, some (.int 0), some (.long y66), none]) dX9_letter_92 rfl rfl rfl rfl ?_
                exact ih94 M0 (some (.ref 386)) a0 a1 a2 y66 0 y66 hJ0 (by omega) (by omega) (zlbot _) (zltop _) (zbot _) (ztop _) (zlbot _) (zltop _) (by have := zt_0; have := ztop a0; have := zbot a0; have := ztop a1; have := zbot a1; have := ztop a2; have := zbot a2; have := zltop y66; have := zlbot y66; omega)
set_option maxRecDepth 100000 in
theorem k_2354 {X : List Int32} {d N : Nat} {M0 : zM} (a0 : Int32) (ha00 : (0 : Int) ≤ a0.toInt) (ha01 : a0.toInt ≤ 1) (a1 : Int32) (ha10 : (0 : Int) ≤ a1.toInt) (ha11 : a1.toInt ≤ 11) (hN : N ≤ 600) (hB0 : zB N M0) : ZV X (d + 2) 2354 [.ref 386, .int a0, .int a1] M0 (zRI N [] M0 (-1) (11) (fun _ _ => True)) := by
  have hJ0 : zJ N [] M0 M0 := zJ_refl hB0
  refine ZV.of (ini := false) rfl (Nat.le_of_ble_eq_true rfl) (by decide +kernel) ?_
  have main : ∀ n : Nat,
      (∀ (M : zM) (v2_1 : Int32) (v2_2 : Int32) (v2_3 : Int32), zJ N [] M0 M → ((0 : Int) ≤ v2_1.toInt) → (v2_1.toInt ≤ 1) → ((0 : Int) ≤ v2_2.toInt) → (v2_2.toInt ≤ 11) → ((0 : Int) ≤ v2_3.toInt) → (v2_3.toInt ≤ 12) → 3 * (12 - v2_3.toInt) + 1 < (n : Int) → ZW X (d + 1) 9 false (some .int) cX9_placeOf (zRI N [] M0 (-1) (11) (fun _ _ => True)) (2, [some (.ref 386), some (.int v2_1), some (.int v2_2), some (.int v2_3)], [], M)) := by
    intro n
    induction n with
    | zero =>
      exact (fun M v2_1 v2_2 v2_3 hJ v2_10 v2_11 v2_20 v2_21 v2_30 v2_31 hn => absurd hn (by omega))
    | succ n ih =>
      have ih2 := ih
      · intro M v2_1 v2_2 v2_3 hJ v2_10 v2_11 v2_20 v2_21 v2_30 v2_31 hn
        refine w_lo dX9_placeOf_2 rfl rfl rfl rfl ?_
        refine w_lo dX9_placeOf_3 rfl rfl rfl rfl ?_
        refine w_iv dX9_placeOf_4 rfl rfl (As := []) rfl rfl hJ.1.1 zs_386 (Nat.le_of_ble_eq_true rfl) ?_
        refine ZV.of (ini := false) rfl (Nat.le_of_ble_eq_true rfl) (by decide +kernel) ?_
        show ZW _ _ _ _ _ _ _ (0, [some (.ref 386)], [], M)
        refine w_lo dX9_many_0 rfl rfl rfl rfl ?_
        refine w_gf dX9_many_1 rfl hJ.1.1 zs_386 (zr_386_13 hJ.1) ?_
        refine w_lo dX9_many_4 rfl rfl rfl rfl ?_
        refine w_gfi dX9_many_5 rfl hJ.1 zs_386 (Nat.le_of_ble_eq_true rfl) zo_386_12 ?_
        intro x1 f2 h3 h4
        refine w_iai dX9_many_8 hJ.1 zs_388 (by omega) (by omega) zu_388 ?_
        intro x8 f5 h6 h7
        refine w_eni dX9_many_9 rfl rfl ?_
        show ZW _ _ _ _ _ _ _ (7, [some (.ref 386), some (.int v2_1), some (.int v2_2), some (.int v2_3)], [.int x8, .int v2_3], M)
        rcases zcut v2_3.toInt x8.toInt with h9 | h9
        · skip
          refine w_cge_f dX9_placeOf_7 (t := 33) rfl (by omega) ?_
          refine w_lo dX9_placeOf_10 rfl rfl rfl rfl ?_
          refine w_gf dX9_placeOf_11 rfl hJ.1.1 zs_386 (zr_386_50 hJ.1) ?_
          refine w_bi dX9_placeOf_14 (c := 12) (by decide) ?_
          refine w_lo dX9_placeOf_16 rfl rfl rfl rfl ?_
          refine w_mulc dX9_placeOf_17 zt_12 (by have := zt_12; omega) ?_
          intro x10 h11
          have := zt_12
          refine w_lo dX9_placeOf_18 rfl rfl rfl rfl ?_
          refine w_add dX9_placeOf_19 (by omega) ?_
          intro x12 h13
          refine w_iai dX9_placeOf_20 hJ.1 zs_419 (by omega) (by omega) zu_419 ?_
          intro x17 f14 h15 h16
          refine w_lo dX9_placeOf_21 rfl rfl rfl rfl ?_
          rcases Int.decEq x17.toInt v2_2.toInt with h18 | h18
          · skip
            refine w_cne_t dX9_placeOf_22 (t := 27) rfl (by omega) ?_
            refine w_inc (kk := 3) dX9_placeOf_27 rfl (m := 1) (by decide) (by omega) ?_
            intro x19 h20
            refine ⟨_, rfl, ?_⟩
            show ZW _ _ _ _ _ _ _ (30, [some (.ref 386), some (.int v2_1), some (.int v2_2), some (.int x19)], [], M)
            refine w_gt dX9_placeOf_30 (t := 2) rfl ?_
            exact ih2 M v2_1 v2_2 x19 hJ (by omega) (by omega) (by omega) (by omega) (by omega) (by omega) (by omega)
          · skip
            refine w_cne_f dX9_placeOf_22 (t := 27) rfl (by omega) ?_
            refine w_lo dX9_placeOf_25 rfl rfl rfl rfl ?_
            refine w_eni dX9_placeOf_26 rfl rfl ?_
            exact ⟨_, _, rfl, (by omega), (by omega), hJ, trivial⟩
        · skip
          refine w_cge_t dX9_placeOf_7 (t := 33) rfl (by omega) ?_
          refine w_ic dX9_placeOf_33 zi_m1 ?_
          refine w_en dX9_placeOf_34 rfl ?_
          exact ⟨_, _, rfl, (by have := zt_m1; omega), (by have := zt_m1; omega), hJ, trivial⟩
  have ih2 := main 48
  show ZW _ _ _ _ _ _ _ (0, [some (.ref 386), some (.int a0), some (.int a1), none], [], M0)
  refine w_ic dX9_placeOf_0 zi_0 ?_
  refine w_lo (ml' := [some (.ref 386), some (.int a0), some (.int a1), some (.int 0)]) dX9_placeOf_1 rfl rfl rfl rfl ?_
  exact ih2 M0 a0 a1 0 hJ0 (by omega) (by omega) (by omega) (by omega) (by have := zt_0; omega) (by have := zt_0; omega) (by have := zt_0; omega)
set_option maxRecDepth 100000 in
theorem k_2352 {X : List Int32} {d N : Nat} {M0 : zM} (a0 : Int32) (a1 : Int32) (hN : N ≤ 600) (hB0 : zB N M0) : ZV X (d + 3) 2352 [.ref 386, .int a0, .int a1] M0 (zRI N [] M0 (-2147483648) (2147483647) (fun _ _ => True)) := by
  have hJ0 : zJ N [] M0 M0 := zJ_refl hB0
  refine ZV.of (ini := false) rfl (Nat.le_of_ble_eq_true rfl) (by decide +kernel) ?_
  show ZW _ _ _ _ _ _ _ (0, [some (.ref 386), some (.int a0), some (.int a1)], [], M0)
  refine w_lo dX9_boy_0 rfl rfl rfl rfl ?_
  refine w_lo dX9_boy_1 rfl rfl rfl rfl ?_
  refine w_iv dX9_boy_2 rfl rfl (As := [.int a0]) rfl rfl hJ0.1.1 zs_386 (Nat.le_of_ble_eq_true rfl) ?_
  refine ZV.of (ini := false) rfl (Nat.le_of_ble_eq_true rfl) (by decide +kernel) ?_
  show ZW _ _ _ _ _ _ _ (0, [some (.ref 386), some (.int a0)], [], M0)
  refine w_lo dX9_isBoy_0 rfl rfl rfl rfl ?_
  rcases zcut a0.toInt (0 : Int) with h1 | h1
  · skip
    refine w_ilt_t dX9_isBoy_1 (t := 21) rfl (by omega) ?_
    refine w_ic dX9_isBoy_21 zi_0 ?_
    refine w_en dX9_isBoy_22 rfl ?_
    show ZW _ _ _ _ _ _ _ (5, [some (.ref 386), some (.int a0), some (.int a1)], [.int 0], M0)
    refine w_ine_f dX9_boy_5 (t := 10) rfl (by have := zt_0; omega) ?_
    refine w_ic dX9_boy_8 zi_m1 ?_
    refine w_en dX9_boy_9 rfl ?_
    exact ⟨_, _, rfl, (zbot _), (ztop _), hJ0, trivial⟩
  · skip
    refine w_ilt_f dX9_isBoy_1 (t := 21) rfl (by omega) ?_
    refine w_lo dX9_isBoy_4 rfl rfl rfl rfl ?_
    refine w_lo dX9_isBoy_5 rfl rfl rfl rfl ?_
    refine w_gf dX9_isBoy_6 rfl hJ0.1.1 zs_386 (zr_386_13 hJ0.1) ?_
    refine w_lo dX9_isBoy_9 rfl rfl rfl rfl ?_
    refine w_gfi dX9_isBoy_10 rfl hJ0.1 zs_386 (Nat.le_of_ble_eq_true rfl) zo_386_12 ?_
    intro x2 f3 h4 h5
    refine w_iai dX9_isBoy_13 hJ0.1 zs_388 (by omega) (by omega) zu_388 ?_
    intro x9 f6 h7 h8
    rcases zcut a0.toInt x9.toInt with h10 | h10
    · skip
      refine w_cge_f dX9_isBoy_14 (t := 21) rfl (by omega) ?_
      refine w_ic dX9_isBoy_17 zi_1 ?_
      refine w_gt dX9_isBoy_18 (t := 22) rfl ?_
      refine w_en dX9_isBoy_22 rfl ?_
      show ZW _ _ _ _ _ _ _ (5, [some (.ref 386), some (.int a0), some (.int a1)], [.int 1], M0)
      refine w_ine_t dX9_boy_5 (t := 10) rfl (by have := zt_1; omega) ?_
      refine w_lo dX9_boy_10 rfl rfl rfl rfl ?_
      rcases Int.decEq a1.toInt (0 : Int) with h11 | h11
      rotate_left
      · skip
        refine w_ts dX9_boy_11 (t := 76) (j := 0) h11 (by decide) ?_
        refine w_lo dX9_boy_76 rfl rfl rfl rfl ?_
        refine w_gf dX9_boy_77 rfl hJ0.1.1 zs_386 (zr_386_15 hJ0.1) ?_
        refine w_bi dX9_boy_80 (c := 12) (by decide) ?_
        refine w_lo dX9_boy_82 rfl rfl rfl rfl ?_
        refine w_gf dX9_boy_83 rfl hJ0.1.1 zs_386 f3 ?_
        refine w_mulc dX9_boy_86 zt_12 (by have := zt_12; omega) ?_
        intro x12 h13
        have := zt_12
        refine w_lo dX9_boy_87 rfl rfl rfl rfl ?_
        refine w_add dX9_boy_88 (by omega) ?_
        intro x14 h15
        refine w_iai dX9_boy_89 hJ0.1 zs_390 (by omega) (by omega) zu_390 ?_
        intro x19 f16 h17 h18
        refine w_eni dX9_boy_90 rfl rfl ?_
        exact ⟨_, _, rfl, (zbot _), (ztop _), hJ0, trivial⟩
      rcases Int.decEq a1.toInt (1 : Int) with h20 | h20
      rotate_left
      · skip
        refine w_ts dX9_boy_11 (t := 91) (j := 1) h20 (by decide) ?_
        refine w_lo dX9_boy_91 rfl rfl rfl rfl ?_
        refine w_gf dX9_boy_92 rfl hJ0.1.1 zs_386 (zr_386_16 hJ0.1) ?_
        refine w_bi dX9_boy_95 (c := 12) (by decide) ?_
        refine w_lo dX9_boy_97 rfl rfl rfl rfl ?_
        refine w_gf dX9_boy_98 rfl hJ0.1.1 zs_386 f3 ?_
        refine w_mulc dX9_boy_101 zt_12 (by have := zt_12; omega) ?_
        intro x21 h22
        have := zt_12
        refine w_lo dX9_boy_102 rfl rfl rfl rfl ?_
        refine w_add dX9_boy_103 (by omega) ?_
        intro x23 h24
        refine w_iai dX9_boy_104 hJ0.1 zs_391 (by omega) (by omega) zu_391 ?_
        intro x28 f25 h26 h27
        refine w_eni dX9_boy_105 rfl rfl ?_
        exact ⟨_, _, rfl, (zbot _), (ztop _), hJ0, trivial⟩
      rcases Int.decEq a1.toInt (2 : Int) with h29 | h29
      rotate_left
      · skip
        refine w_ts dX9_boy_11 (t := 106) (j := 2) h29 (by decide) ?_
        refine w_lo dX9_boy_106 rfl rfl rfl rfl ?_
        refine w_gf dX9_boy_107 rfl hJ0.1.1 zs_386 (zr_386_17 hJ0.1) ?_
        refine w_bi dX9_boy_110 (c := 12) (by decide) ?_
        refine w_lo dX9_boy_112 rfl rfl rfl rfl ?_
        refine w_gf dX9_boy_113 rfl hJ0.1.1 zs_386 f3 ?_
        refine w_mulc dX9_boy_116 zt_12 (by have := zt_12; omega) ?_
        intro x30 h31
        have := zt_12
        refine w_lo dX9_boy_117 rfl rfl rfl rfl ?_
        refine w_add dX9_boy_118 (by omega) ?_
        intro x32 h33
        refine w_iai dX9_boy_119 hJ0.1 zs_392 (by omega) (by omega) zu_392 ?_
        intro x37 f34 h35 h36
        refine w_eni dX9_boy_120 rfl rfl ?_
        exact ⟨_, _, rfl, (zbot _), (ztop _), hJ0, trivial⟩
      rcases Int.decEq a1.toInt (3 : Int) with h38 | h38
      rotate_left
      · skip
        refine w_ts dX9_boy_11 (t := 121) (j := 3) h38 (by decide) ?_
        refine w_lo dX9_boy_121 rfl rfl rfl rfl ?_
        refine w_gf dX9_boy_122 rfl hJ0.1.1 zs_386 (zr_386_18 hJ0.1) ?_
        refine w_bi dX9_boy_125 (c := 12) (by decide) ?_
        refine w_lo dX9_boy_127 rfl rfl rfl rfl ?_
        refine w_gf dX9_boy_128 rfl hJ0.1.1 zs_386 f3 ?_
        refine w_mulc dX9_boy_131 zt_12 (by have := zt_12; omega) ?_
        intro x39 h40
        have := zt_12
        refine w_lo dX9_boy_132 rfl rfl rfl rfl ?_
        refine w_add dX9_boy_133 (by omega) ?_
        intro x41 h42
        refine w_iai dX9_boy_134 hJ0.1 zs_393 (by omega) (by omega) zu_393 ?_
        intro x46 f43 h44 h45
        refine w_eni dX9_boy_135 rfl rfl ?_
        exact ⟨_, _, rfl, (zbot _), (ztop _), hJ0, trivial⟩
      rcases Int.decEq a1.toInt (4 : Int) with h47 | h47
      rotate_left
      · skip
        refine w_ts dX9_boy_11 (t := 136) (j := 4) h47 (by decide) ?_
        refine w_lo dX9_boy_136 rfl rfl rfl rfl ?_
        refine w_gf dX9_boy_137 rfl hJ0.1.1 zs_386 (zr_386_19 hJ0.1) ?_
        refine w_bi dX9_boy_140 (c := 12) (by decide) ?_
        refine w_lo dX9_boy_142 rfl rfl rfl rfl ?_
        refine w_gf dX9_boy_143 rfl hJ0.1.1 zs_386 f3 ?_
        refine w_mulc dX9_boy_146 zt_12 (by have := zt_12; omega) ?_
        intro x48 h49
        have := zt_12
        refine w_lo dX9_boy_147 rfl rfl rfl rfl ?_
        refine w_add dX9_boy_148 (by omega) ?_
        intro x50 h51
        refine w_iai dX9_boy_149 hJ0.1 zs_394 (by omega) (by omega) zu_394 ?_
        intro x55 f52 h53 h54
        refine w_eni dX9_boy_150 rfl rfl ?_
        exact ⟨_, _, rfl, (zbot _), (ztop _), hJ0, trivial⟩
      rcases Int.decEq a1.toInt (5 : Int) with h56 | h56
      rotate_left
      · skip
        refine w_ts dX9_boy_11 (t := 151) (j := 5) h56 (by decide) ?_
        refine w_lo dX9_boy_151 rfl rfl rfl rfl ?_
        refine w_ic dX9_boy_152 zi_0 ?_
        refine w_lo dX9_boy_153 rfl rfl rfl rfl ?_
        refine w_iv dX9_boy_154 rfl rfl (As := [.int 0, .int a0]) rfl rfl hJ0.1.1 zs_386 (Nat.le_of_ble_eq_true rfl) ?_
        refine ZV.imp (k_2354 0 (by have := zt_0; omega) (by have := zt_0; omega) a0 (by omega) (by omega) hN hJ0.1) ?_
        rintro _ ⟨x60, M57, rfl, h61, h62, hJ58, hq59⟩
        have hJ63 := zJ_trans hJ0 hJ58 zSub_nil
        show ZW _ _ _ _ _ _ _ (157, [some (.ref 386), some (.int a0), some (.int a1)], [.int x60], M57)
        refine w_eni dX9_boy_157 rfl rfl ?_
        exact ⟨_, _, rfl, (zbot _), (ztop _), hJ63, trivial⟩
      rcases Int.decEq a1.toInt (6 : Int) with h64 | h64
      rotate_left
      · skip
        refine w_ts dX9_boy_11 (t := 158) (j := 6) h64 (by decide) ?_
        refine w_lo dX9_boy_158 rfl rfl rfl rfl ?_
        refine w_gf dX9_boy_159 rfl hJ0.1.1 zs_386 (zr_386_51 hJ0.1) ?_
        refine w_lo dX9_boy_162 rfl rfl rfl rfl ?_
        refine w_iai dX9_boy_163 hJ0.1 zs_420 (by omega) (by omega) zu_420 ?_
        intro x68 f65 h66 h67
        refine w_eni dX9_boy_164 rfl rfl ?_
        exact ⟨_, _, rfl, (zbot _), (ztop _), hJ0, trivial⟩
      rcases Int.decEq a1.toInt (7 : Int) with h69 | h69
      rotate_left
      · skip
        refine w_ts dX9_boy_11 (t := 165) (j := 7) h69 (by decide) ?_
        refine w_lo dX9_boy_165 rfl rfl rfl rfl ?_
        refine w_gf dX9_boy_166 rfl hJ0.1.1 zs_386 (zr_386_52 hJ0.1) ?_
        refine w_lo dX9_boy_169 rfl rfl rfl rfl ?_
        refine w_iai dX9_boy_170 hJ0.1 zs_421 (by omega) (by omega) zu_421 ?_
        intro x73 f70 h71 h72
        refine w_eni dX9_boy_171 rfl rfl ?_
        exact ⟨_, _, rfl, (zbot _), (ztop _), hJ0, trivial⟩
      rcases Int.decEq a1.toInt (8 : Int) with h74 | h74
      rotate_left
      · skip
        refine w_ts dX9_boy_11 (t := 172) (j := 8) h74 (by decide) ?_
        refine w_lo dX9_boy_172 rfl rfl rfl rfl ?_
        refine w_gf dX9_boy_173 rfl hJ0.1.1 zs_386 (zr_386_53 hJ0.1) ?_
        refine w_lo dX9_boy_176 rfl rfl rfl rfl ?_
        refine w_iai dX9_boy_177 hJ0.1 zs_422 (by omega) (by omega) zu_422 ?_
        intro x78 f75 h76 h77
        refine w_eni dX9_boy_178 rfl rfl ?_
        exact ⟨_, _, rfl, (zbot _), (ztop _), hJ0, trivial⟩
      rcases Int.decEq a1.toInt (9 : Int) with h79 | h79
      rotate_left
      · skip
        refine w_ts dX9_boy_11 (t := 179) (j := 9) h79 (by decide) ?_
        refine w_lo dX9_boy_179 rfl rfl rfl rfl ?_
        refine w_gf dX9_boy_180 rfl hJ0.1.1 zs_386 (zr_386_54 hJ0.1) ?_
        refine w_lo dX9_boy_183 rfl rfl rfl rfl ?_
        refine w_iai dX9_boy_184 hJ0.1 zs_423 (by omega) (by omega) zu_423 ?_
        intro x83 f80 h81 h82
        refine w_eni dX9_boy_185 rfl rfl ?_
        exact ⟨_, _, rfl, (zbot _), (ztop _), hJ0, trivial⟩
      rcases Int.decEq a1.toInt (10 : Int) with h84 | h84
      rotate_left
      · skip
        refine w_ts dX9_boy_11 (t := 186) (j := 10) h84 (by decide) ?_
        refine w_lo dX9_boy_186 rfl rfl rfl rfl ?_
        refine w_gf dX9_boy_187 rfl hJ0.1.1 zs_386 (zr_386_57 hJ0.1) ?_
        refine w_lo dX9_boy_190 rfl rfl rfl rfl ?_
        refine w_iai dX9_boy_191 hJ0.1 zs_426 (by omega) (by omega) zu_426 ?_
        intro x88 f85 h86 h87
        refine w_eni dX9_boy_192 rfl rfl ?_
        exact ⟨_, _, rfl, (zbot _), (ztop _), hJ0, trivial⟩
      rcases Int.decEq a1.toInt (11 : Int) with h89 | h89
      rotate_left
      · skip
        refine w_ts dX9_boy_11 (t := 193) (j := 11) h89 (by decide) ?_
        refine w_lo dX9_boy_193 rfl rfl rfl rfl ?_
        refine w_gf dX9_boy_194 rfl hJ0.1.1 zs_386 (zr_386_58 hJ0.1) ?_
        refine w_lo dX9_boy_197 rfl rfl rfl rfl ?_
        refine w_iai dX9_boy_198 hJ0.1 zs_427 (by omega) (by omega) zu_427 ?_
        intro x93 f90 h91 h92
        refine w_eni dX9_boy_199 rfl rfl ?_
        exact ⟨_, _, rfl, (zbot _), (ztop _), hJ0, trivial⟩
      rcases Int.decEq a1.toInt (12 : Int) with h94 | h94
      rotate_left
      · skip
        refine w_ts dX9_boy_11 (t := 200) (j := 12) h94 (by decide) ?_
        refine w_lo dX9_boy_200 rfl rfl rfl rfl ?_
        refine w_gf dX9_boy_201 rfl hJ0.1.1 zs_386 (zr_386_59 hJ0.1) ?_
        refine w_lo dX9_boy_204 rfl rfl rfl rfl ?_
        refine w_iai dX9_boy_205 hJ0.1 zs_428 (by omega) (by omega) zu_428 ?_
        intro x98 f95 h96 h97
        refine w_eni dX9_boy_206 rfl rfl ?_
        exact ⟨_, _, rfl, (zbot _), (ztop _), hJ0, trivial⟩
      refine w_td dX9_boy_11 (t := 207) (by omega) rfl ?_
      refine w_ic dX9_boy_207 zi_m1 ?_
      refine w_en dX9_boy_208 rfl ?_
      exact ⟨_, _, rfl, (zbot _), (ztop _), hJ0, trivial⟩
    · skip
      refine w_cge_t dX9_isBoy_14 (t := 21) rfl (by omega) ?_
      refine w_ic dX9_isBoy_21 zi_0 ?_
      refine w_en dX9_isBoy_22 rfl ?_
      show ZW _ _ _ _ _ _ _ (5, [some (.ref 386), some (.int a0), some (.int a1)], [.int 0], M0)
      refine w_ine_f dX9_boy_5 (t := 10) rfl (by have := zt_0; omega) ?_
      refine w_ic dX9_boy_8 zi_m1 ?_
      refine w_en dX9_boy_9 rfl ?_
      exact ⟨_, _, rfl, (zbot _), (ztop _), hJ0, trivial⟩
set_option maxRecDepth 100000 in
theorem k_2355 {X : List Int32} {d N : Nat} {M0 : zM} (a0 : Int32) (hN : N ≤ 600) (hB0 : zB N M0) : ZV X (d + 2) 2355 [.ref 386, .int a0] M0 (zRI N [] M0 (-1) (11) (fun _ _ => True)) := by
  have hJ0 : zJ N [] M0 M0 := zJ_refl hB0
  refine ZV.of (ini := false) rfl (Nat.le_of_ble_eq_true rfl) (by decide +kernel) ?_
  show ZW _ _ _ _ _ _ _ (0, [some (.ref 386), some (.int a0)], [], M0)
  refine w_lo dX9_at_0 rfl rfl rfl rfl ?_
  refine w_lo dX9_at_1 rfl rfl rfl rfl ?_
  refine w_iv dX9_at_2 rfl rfl (As := [.int a0]) rfl rfl hJ0.1.1 zs_386 (Nat.le_of_ble_eq_true rfl) ?_
  refine ZV.of (ini := false) rfl (Nat.le_of_ble_eq_true rfl) (by decide +kernel) ?_
  show ZW _ _ _ _ _ _ _ (0, [some (.ref 386), some (.int a0)], [], M0)
  refine w_lo dX9_isBoy_0 rfl rfl rfl rfl ?_
  rcases zcut a0.toInt (0 : Int) with h1 | h1
  · skip
    refine w_ilt_t dX9_isBoy_1 (t := 21) rfl (by omega) ?_
    refine w_ic dX9_isBoy_21 zi_0 ?_
    refine w_en dX9_isBoy_22 rfl ?_
    show ZW _ _ _ _ _ _ _ (5, [some (.ref 386), some (.int a0)], [.int 0], M0)
    refine w_ieq_t dX9_at_5 (t := 17) rfl (by have := zt_0; omega) ?_
    refine w_ic dX9_at_17 zi_m1 ?_
    refine w_en dX9_at_18 rfl ?_
    exact ⟨_, _, rfl, (by have := zt_m1; omega), (by have := zt_m1; omega), hJ0, trivial⟩
  · skip
    refine w_ilt_f dX9_isBoy_1 (t := 21) rfl (by omega) ?_
    refine w_lo dX9_isBoy_4 rfl rfl rfl rfl ?_
    refine w_lo dX9_isBoy_5 rfl rfl rfl rfl ?_
    refine w_gf dX9_isBoy_6 rfl hJ0.1.1 zs_386 (zr_386_13 hJ0.1) ?_
    refine w_lo dX9_isBoy_9 rfl rfl rfl rfl ?_
    refine w_gfi dX9_isBoy_10 rfl hJ0.1 zs_386 (Nat.le_of_ble_eq_true rfl) zo_386_12 ?_
    intro x2 f3 h4 h5
    refine w_iai dX9_isBoy_13 hJ0.1 zs_388 (by omega) (by omega) zu_388 ?_
    intro x9 f6 h7 h8
    rcases zcut a0.toInt x9.toInt with h10 | h10
    · skip
      refine w_cge_f dX9_isBoy_14 (t := 21) rfl (by omega) ?_
      refine w_ic dX9_isBoy_17 zi_1 ?_
      refine w_gt dX9_isBoy_18 (t := 22) rfl ?_
      refine w_en dX9_isBoy_22 rfl ?_
      show ZW _ _ _ _ _ _ _ (5, [some (.ref 386), some (.int a0)], [.int 1], M0)
      refine w_ieq_f dX9_at_5 (t := 17) rfl (by have := zt_1; omega) ?_
      refine w_lo dX9_at_8 rfl rfl rfl rfl ?_
      refine w_gf dX9_at_9 rfl hJ0.1.1 zs_386 (zr_386_50 hJ0.1) ?_
      refine w_lo dX9_at_12 rfl rfl rfl rfl ?_
      refine w_iai dX9_at_13 hJ0.1 zs_419 (by omega) (by omega) zu_419 ?_
      intro x14 f11 h12 h13
      refine w_gt dX9_at_14 (t := 18) rfl ?_
      refine w_eni dX9_at_18 rfl rfl ?_
      exact ⟨_, _, rfl, (by omega), (by omega), hJ0, trivial⟩
    · skip
      refine w_cge_t dX9_isBoy_14 (t := 21) rfl (by omega) ?_
      refine w_ic dX9_isBoy_21 zi_0 ?_
      refine w_en dX9_isBoy_22 rfl ?_
      show ZW _ _ _ _ _ _ _ (5, [some (.ref 386), some (.int a0)], [.int 0], M0)
      refine w_ieq_t dX9_at_5 (t := 17) rfl (by have := zt_0; omega) ?_
      refine w_ic dX9_at_17 zi_m1 ?_
      refine w_en dX9_at_18 rfl ?_
      exact ⟨_, _, rfl, (by have := zt_m1; omega), (by have := zt_m1; omega), hJ0, trivial⟩
set_option maxRecDepth 100000 in
theorem k_2358 {X : List Int32} {d N : Nat} {M0 : zM} (a0 : Int32) (ha00 : (0 : Int) ≤ a0.toInt) (ha01 : a0.toInt ≤ 10) (hN : N ≤ 600) (hB0 : zB N M0) : ZV X (d + 2) 2358 [.ref 386, .int a0] M0 (zRI N [] M0 (-2147483648) (2147483647) (fun _ _ => True)) := by
  have hJ0 : zJ N [] M0 M0 := zJ_refl hB0
  refine ZV.of (ini := false) rfl (Nat.le_of_ble_eq_true rfl) (by decide +kernel) ?_
  have main : ∀ n : Nat,
      (∀ (M : zM) (v12_1 : Int32) (v12_2 : Int32) (v12_3 : Int32) (v12_4 : Int32) (o12_5 : Option Value), zJ N [] M0 M → ((0 : Int) ≤ v12_1.toInt) → (v12_1.toInt ≤ 10) → ((-2147483648 : Int) ≤ v12_2.toInt) → (v12_2.toInt ≤ 2147483647) → ((-2147483648 : Int) ≤ v12_3.toInt) → (v12_3.toInt ≤ 2147483647) → ((-2 : Int) ≤ v12_4.toInt) → (v12_4.toInt ≤ 10) → 5 * (v12_4.toInt - (-2)) + 3 < (n : Int) → ZW X (d + 1) 9 false (some .int) cX9_strain (zRI N [] M0 (-2147483648) (2147483647) (fun _ _ => True)) (12, [some (.ref 386), some (.int v12_1), some (.int v12_2), some (.int v12_3), some (.int v12_4), o12_5], [], M)) ∧
      (∀ (M : zM) (v73_1 : Int32) (v73_2 : Int32) (u73_3 : Int32) (v73_4 : Int32) (u73_5 : Int32) (s73_0 : Int32), zJ N [] M0 M → ((0 : Int) ≤ v73_1.toInt) → (v73_1.toInt ≤ 10) → ((-2147483648 : Int) ≤ v73_2.toInt) → (v73_2.toInt ≤ 2147483647) → ((0 : Int) ≤ v73_4.toInt) → (v73_4.toInt ≤ 10) → ((-2147483648 : Int) ≤ s73_0.toInt) → (s73_0.toInt ≤ 2147483647) → 5 * (v73_4.toInt - (-2)) + 2 < (n : Int) → ZW X (d + 1) 9 false (some .int) cX9_strain (zRI N [] M0 (-2147483648) (2147483647) (fun _ _ => True)) (73, [some (.ref 386), some (.int v73_1), some (.int v73_2), some (.int u73_3), some (.int v73_4), some (.int u73_5)], [.int s73_0], M)) ∧
      (∀ (M : zM) (v75_1 : Int32) (u75_2 : Int32) (u75_3 : Int32) (v75_4 : Int32) (u75_5 : Int32) (s75_0 : Int32), zJ N [] M0 M → ((0 : Int) ≤ v75_1.toInt) → (v75_1.toInt ≤ 10) → ((0 : Int) ≤ v75_4.toInt) → (v75_4.toInt ≤ 10) → ((-2147483648 : Int) ≤ s75_0.toInt) → (s75_0.toInt ≤ 2147483647) → 5 * (v75_4.toInt - (-2)) + 1 < (n : Int) → ZW X (d + 1) 9 false (some .int) cX9_strain (zRI N [] M0 (-2147483648) (2147483647) (fun _ _ => True)) (75, [some (.ref 386), some (.int v75_1), some (.int u75_2), some (.int u75_3), some (.int v75_4), some (.int u75_5)], [.int s75_0], M)) := by
    intro n
    induction n with
    | zero =>
      exact ⟨(fun M v12_1 v12_2 v12_3 v12_4 o12_5 hJ v12_10 v12_11 v12_20 v12_21 v12_30 v12_31 v12_40 v12_41 hn => absurd hn (by omega)), (fun M v73_1 v73_2 u73_3 v73_4 u73_5 s73_0 hJ v73_10 v73_11 v73_20 v73_21 v73_40 v73_41 s73_00 s73_01 hn => absurd hn (by omega)), (fun M v75_1 u75_2 u75_3 v75_4 u75_5 s75_0 hJ v75_10 v75_11 v75_40 v75_41 s75_00 s75_01 hn => absurd hn (by omega))⟩
    | succ n ih =>
      obtain ⟨ih12, ih73, ih75⟩ := ih
      refine ⟨?_, ?_, ?_⟩
      · intro M v12_1 v12_2 v12_3 v12_4 o12_5 hJ v12_10 v12_11 v12_20 v12_21 v12_30 v12_31 v12_40 v12_41 hn
        refine w_lo dX9_strain_12 rfl rfl rfl rfl ?_
        refine w_lo dX9_strain_14 rfl rfl rfl rfl ?_
        rcases zcut v12_4.toInt v12_1.toInt with h1 | h1
        · skip
          refine w_clt_t dX9_strain_15 (t := 107) rfl (by omega) ?_
          refine w_lo dX9_strain_107 rfl rfl rfl rfl ?_
          refine w_eni dX9_strain_108 rfl rfl ?_
          exact ⟨_, _, rfl, (zbot _), (ztop _), hJ, trivial⟩
        · skip
          refine w_clt_f dX9_strain_15 (t := 107) rfl (by omega) ?_
          refine w_lo dX9_strain_18 rfl rfl rfl rfl ?_
          refine w_gf dX9_strain_19 rfl hJ.1.1 zs_386 (zr_386_50 hJ.1) ?_
          refine w_lo dX9_strain_22 rfl rfl rfl rfl ?_
          refine w_ic dX9_strain_24 zi_1 ?_
          refine w_add dX9_strain_25 (by have := zt_1; omega) ?_
          intro x2 h3
          have := zt_1
          refine w_iai dX9_strain_26 hJ.1 zs_419 (by omega) (by omega) zu_419 ?_
          intro x7 f4 h5 h6
          refine w_lo (ml' := [some (.ref 386), some (.int v12_1), some (.int v12_2), some (.int v12_3), some (.int v12_4), some (.int x7)]) dX9_strain_27 rfl rfl rfl rfl ?_
          refine w_lo dX9_strain_29 rfl rfl rfl rfl ?_
          refine w_gf dX9_strain_30 rfl hJ.1.1 zs_386 (zr_386_60 hJ.1) ?_
          refine w_lo dX9_strain_33 rfl rfl rfl rfl ?_
          refine w_iai dX9_strain_35 hJ.1 zs_429 (by omega) (by omega) zu_429 ?_
          intro x11 f8 h9 h10
          rcases Int.decEq x11.toInt (0 : Int) with h12 | h12
          · skip
            refine w_ine_t dX9_strain_36 (t := 43) rfl (by omega) ?_
            refine w_lo dX9_strain_43 rfl rfl rfl rfl ?_
            refine w_gf dX9_strain_44 rfl hJ.1.1 zs_386 (zr_386_51 hJ.1) ?_
            refine w_lo dX9_strain_47 rfl rfl rfl rfl ?_
            refine w_iai dX9_strain_49 hJ.1 zs_420 (by omega) (by omega) zu_420 ?_
            intro x16 f13 h14 h15
            refine w_ic dX9_strain_50 zi_1 ?_
            rcases Int.decEq x16.toInt (1 : Int) with h17 | h17
            · skip
              refine w_cne_t dX9_strain_51 (t := 72) rfl (by have := zt_1; omega) ?_
              refine w_ic dX9_strain_72 zi_0 ?_
              exact ih73 M v12_1 v12_2 v12_3 v12_4 x7 0 hJ (by omega) (by omega) (zbot _) (ztop _) (by omega) (by omega) (zbot _) (ztop _) (by have := zt_0; omega)
            · skip
              refine w_cne_f dX9_strain_51 (t := 72) rfl (by have := zt_1; omega) ?_
              refine w_lo dX9_strain_54 rfl rfl rfl rfl ?_
              refine w_gf dX9_strain_55 rfl hJ.1.1 zs_386 (zr_386_18 hJ.1) ?_
              refine w_bi dX9_strain_58 (c := 12) (by decide) ?_
              refine w_lo dX9_strain_60 rfl rfl rfl rfl ?_
              refine w_gfi dX9_strain_61 rfl hJ.1 zs_386 (Nat.le_of_ble_eq_true rfl) zo_386_12 ?_
              intro x18 f19 h20 h21
              refine w_mulc dX9_strain_64 zt_12 (by have := zt_12; omega) ?_
              intro x22 h23
              have := zt_12
              refine w_lo dX9_strain_65 rfl rfl rfl rfl ?_
              refine w_add dX9_strain_67 (by omega) ?_
              intro x24 h25
              refine w_iai dX9_strain_68 hJ.1 zs_393 (by omega) (by omega) zu_393 ?_
              intro x29 f26 h27 h28
              refine w_gt dX9_strain_69 (t := 73) rfl ?_
              exact ih73 M v12_1 v12_2 v12_3 v12_4 x7 x29 hJ (by omega) (by omega) (zbot _) (ztop _) (by omega) (by omega) (zbot _) (ztop _) (by omega)
          · skip
            refine w_ine_f dX9_strain_36 (t := 43) rfl (by omega) ?_
            refine w_ic dX9_strain_39 zi_0 ?_
            refine w_gt dX9_strain_40 (t := 75) rfl ?_
            exact ih75 M v12_1 v12_2 v12_3 v12_4 x7 0 hJ (by omega) (by omega) (by omega) (by omega) (zbot _) (ztop _) (by have := zt_0; omega)
      · intro M v73_1 v73_2 u73_3 v73_4 u73_5 s73_0 hJ v73_10 v73_11 v73_20 v73_21 v73_40 v73_41 s73_00 s73_01 hn
        refine w_lo dX9_strain_73 rfl rfl rfl rfl ?_
        refine w_puI dX9_strain_74 rfl rfl ?_
        intro x30
        exact ih75 M v73_1 v73_2 u73_3 v73_4 u73_5 x30 hJ (by omega) (by omega) (by omega) (by omega) (zbot _) (ztop _) (by omega)
      · intro M v75_1 u75_2 u75_3 v75_4 u75_5 s75_0 hJ v75_10 v75_11 v75_40 v75_41 s75_00 s75_01 hn
        refine w_lo (ml' := [some (.ref 386), some (.int v75_1), some (.int u75_2), some (.int s75_0), some (.int v75_4), some (.int u75_5)]) dX9_strain_75 rfl rfl rfl rfl ?_
        refine w_lo dX9_strain_76 rfl rfl rfl rfl ?_
        refine w_lo dX9_strain_77 rfl rfl rfl rfl ?_
        refine w_gf dX9_strain_78 rfl hJ.1.1 zs_386 (zr_386_61 hJ.1) ?_
        refine w_lo dX9_strain_81 rfl rfl rfl rfl ?_
        refine w_iai dX9_strain_83 hJ.1 zs_430 (by omega) (by omega) zu_430 ?_
        intro x34 f31 h32 h33
        rcases zcut x34.toInt s75_0.toInt with h35 | h35
        · skip
          refine w_cle_f dX9_strain_84 (t := 99) rfl (by omega) ?_
          refine w_lo dX9_strain_87 rfl rfl rfl rfl ?_
          refine w_lo dX9_strain_88 rfl rfl rfl rfl ?_
          refine w_gf dX9_strain_89 rfl hJ.1.1 zs_386 (zr_386_61 hJ.1) ?_
          refine w_lo dX9_strain_92 rfl rfl rfl rfl ?_
          refine w_ia dX9_strain_94 hJ.1.1 zs_430 (znat (by omega)) f31 ?_
          refine w_puI dX9_strain_95 rfl rfl ?_
          intro x39
          refine w_gt dX9_strain_96 (t := 100) rfl ?_
          refine w_lo (ml' := [some (.ref 386), some (.int v75_1), some (.int x39), some (.int s75_0), some (.int v75_4), some (.int u75_5)]) dX9_strain_100 rfl rfl rfl rfl ?_
          refine w_inc (kk := 4) dX9_strain_101 rfl (m := -1) (by decide) (by omega) ?_
          intro x40 h41
          refine ⟨_, rfl, ?_⟩
          show ZW _ _ _ _ _ _ _ (104, [some (.ref 386), some (.int v75_1), some (.int x39), some (.int s75_0), some (.int x40), some (.int u75_5)], [], M)
          refine w_gt dX9_strain_104 (t := 12) rfl ?_
          exact ih12 M v75_1 x39 s75_0 x40 (some (.int u75_5)) hJ (by omega) (by omega) (zbot _) (ztop _) (zbot _) (ztop _) (by omega) (by omega) (by omega)
        · skip
          refine w_cle_t dX9_strain_84 (t := 99) rfl (by omega) ?_
          refine w_ic dX9_strain_99 zi_0 ?_
          refine w_lo (ml' := [some (.ref 386), some (.int v75_1), some (.int 0), some (.int s75_0), some (.int v75_4), some (.int u75_5)]) dX9_strain_100 rfl rfl rfl rfl ?_
          refine w_inc (kk := 4) dX9_strain_101 rfl (m := -1) (by decide) (by omega) ?_
          intro x42 h43
          refine ⟨_, rfl, ?_⟩
          show ZW _ _ _ _ _ _ _ (104, [some (.ref 386), some (.int v75_1), some (.int 0), some (.int s75_0), some (.int x42), some (.int u75_5)], [], M)
          refine w_gt dX9_strain_104 (t := 12) rfl ?_
          exact ih12 M v75_1 0 s75_0 x42 (some (.int u75_5)) hJ (by omega) (by omega) (zbot _) (ztop _) (zbot _) (ztop _) (by omega) (by omega) (by have := zt_0; omega)
  obtain ⟨ih12, ih73, ih75⟩ := main 78
  show ZW _ _ _ _ _ _ _ (0, [some (.ref 386), some (.int a0), none, none, none, none], [], M0)
  refine w_ic dX9_strain_0 zi_0 ?_
  refine w_lo (ml' := [some (.ref 386), some (.int a0), some (.int 0), none, none, none]) dX9_strain_1 rfl rfl rfl rfl ?_
  refine w_ic dX9_strain_2 zi_0 ?_
  refine w_lo (ml' := [some (.ref 386), some (.int a0), some (.int 0), some (.int 0), none, none]) dX9_strain_3 rfl rfl rfl rfl ?_
  refine w_lo dX9_strain_4 rfl rfl rfl rfl ?_
  refine w_iv dX9_strain_5 rfl rfl (As := []) rfl rfl hJ0.1.1 zs_386 (Nat.le_of_ble_eq_true rfl) ?_
  refine ZV.of (ini := false) rfl (Nat.le_of_ble_eq_true rfl) (by decide +kernel) ?_
  show ZW _ _ _ _ _ _ _ (0, [some (.ref 386)], [], M0)
  refine w_lo dX9_many_0 rfl rfl rfl rfl ?_
  refine w_gf dX9_many_1 rfl hJ0.1.1 zs_386 (zr_386_13 hJ0.1) ?_
  refine w_lo dX9_many_4 rfl rfl rfl rfl ?_
  refine w_gfi dX9_many_5 rfl hJ0.1 zs_386 (Nat.le_of_ble_eq_true rfl) zo_386_12 ?_
  intro x44 f45 h46 h47
  refine w_iai dX9_many_8 hJ0.1 zs_388 (by omega) (by omega) zu_388 ?_
  intro x51 f48 h49 h50
  refine w_eni dX9_many_9 rfl rfl ?_
  show ZW _ _ _ _ _ _ _ (8, [some (.ref 386), some (.int a0), some (.int 0), some (.int 0), none, none], [.int x51], M0)
  refine w_ic dX9_strain_8 zi_2 ?_
  refine w_sub dX9_strain_9 (by have := zt_2; omega) ?_
  intro x52 h53
  have := zt_2
  refine w_lo (ml' := [some (.ref 386), some (.int a0), some (.int 0), some (.int 0), some (.int x52), none]) dX9_strain_10 rfl rfl rfl rfl ?_
  exact ih12 M0 a0 0 0 x52 none hJ0 (by omega) (by omega) (zbot _) (ztop _) (zbot _) (ztop _) (by omega) (by omega) (by have := zt_0; omega)
set_option maxRecDepth 100000 in
theorem k_2356 {X : List Int32} {d N : Nat} {M0 : zM} (a0 : Int32) (a1 : Int32) (hN : N ≤ 600) (hB0 : zB N M0) : ZV X (d + 3) 2356 [.ref 386, .int a0, .int a1] M0 (zRI N [] M0 (-2147483648) (2147483647) (fun _ _ => True)) := by
  have hJ0 : zJ N [] M0 M0 := zJ_refl hB0
  refine ZV.of (ini := false) rfl (Nat.le_of_ble_eq_true rfl) (by decide +kernel) ?_
  show ZW _ _ _ _ _ _ _ (0, [some (.ref 386), some (.int a0), some (.int a1)], [], M0)
  refine w_lo dX9_knot_0 rfl rfl rfl rfl ?_
  refine w_lo dX9_knot_1 rfl rfl rfl rfl ?_
  refine w_iv dX9_knot_2 rfl rfl (As := [.int a0]) rfl rfl hJ0.1.1 zs_386 (Nat.le_of_ble_eq_true rfl) ?_
  refine ZV.of (ini := false) rfl (Nat.le_of_ble_eq_true rfl) (by decide +kernel) ?_
  show ZW _ _ _ _ _ _ _ (0, [some (.ref 386), some (.int a0)], [], M0)
  refine w_lo dX9_isKnot_0 rfl rfl rfl rfl ?_
  rcases zcut a0.toInt (0 : Int) with h1 | h1
  · skip
    refine w_ilt_t dX9_isKnot_1 (t := 23) rfl (by omega) ?_
    refine w_ic dX9_isKnot_23 zi_0 ?_
    refine w_en dX9_isKnot_24 rfl ?_
    show ZW _ _ _ _ _ _ _ (5, [some (.ref 386), some (.int a0), some (.int a1)], [.int 0], M0)
    refine w_ine_f dX9_knot_5 (t := 12) rfl (by have := zt_0; omega) ?_
    refine w_ic dX9_knot_8 zi_m1 ?_
    refine w_gt dX9_knot_9 (t := 53) rfl ?_
    refine w_en dX9_knot_53 rfl ?_
    exact ⟨_, _, rfl, (zbot _), (ztop _), hJ0, trivial⟩
  · skip
    refine w_ilt_f dX9_isKnot_1 (t := 23) rfl (by omega) ?_
    refine w_lo dX9_isKnot_4 rfl rfl rfl rfl ?_
    refine w_lo dX9_isKnot_5 rfl rfl rfl rfl ?_
    refine w_gf dX9_isKnot_6 rfl hJ0.1.1 zs_386 (zr_386_13 hJ0.1) ?_
    refine w_lo dX9_isKnot_9 rfl rfl rfl rfl ?_
    refine w_gfi dX9_isKnot_10 rfl hJ0.1 zs_386 (Nat.le_of_ble_eq_true rfl) zo_386_12 ?_
    intro x2 f3 h4 h5
    refine w_iai dX9_isKnot_13 hJ0.1 zs_388 (by omega) (by omega) zu_388 ?_
    intro x9 f6 h7 h8
    refine w_ic dX9_isKnot_14 zi_1 ?_
    refine w_sub dX9_isKnot_15 (by have := zt_1; omega) ?_
    intro x10 h11
    have := zt_1
    rcases zcut a0.toInt x10.toInt with h12 | h12
    · skip
      refine w_cge_f dX9_isKnot_16 (t := 23) rfl (by omega) ?_
      refine w_ic dX9_isKnot_19 zi_1 ?_
      refine w_gt dX9_isKnot_20 (t := 24) rfl ?_
      refine w_en dX9_isKnot_24 rfl ?_
      show ZW _ _ _ _ _ _ _ (5, [some (.ref 386), some (.int a0), some (.int a1)], [.int 1], M0)
      refine w_ine_t dX9_knot_5 (t := 12) rfl (by have := zt_1; omega) ?_
      refine w_lo dX9_knot_12 rfl rfl rfl rfl ?_
      rcases Int.decEq a1.toInt (0 : Int) with h13 | h13
      · skip
        refine w_ine_t dX9_knot_13 (t := 25) rfl (by omega) ?_
        refine w_lo dX9_knot_25 rfl rfl rfl rfl ?_
        refine w_ic dX9_knot_26 zi_1 ?_
        rcases Int.decEq a1.toInt (1 : Int) with h14 | h14
        · skip
          refine w_cne_t dX9_knot_27 (t := 39) rfl (by have := zt_1; omega) ?_
          refine w_lo dX9_knot_39 rfl rfl rfl rfl ?_
          refine w_ic dX9_knot_40 zi_2 ?_
          rcases Int.decEq a1.toInt (2 : Int) with h15 | h15
          · skip
            refine w_cne_t dX9_knot_41 (t := 52) rfl (by have := zt_2; omega) ?_
            refine w_ic dX9_knot_52 zi_m1 ?_
            refine w_en dX9_knot_53 rfl ?_
            exact ⟨_, _, rfl, (zbot _), (ztop _), hJ0, trivial⟩
          · skip
            refine w_cne_f dX9_knot_41 (t := 52) rfl (by have := zt_2; omega) ?_
            refine w_lo dX9_knot_44 rfl rfl rfl rfl ?_
            refine w_lo dX9_knot_45 rfl rfl rfl rfl ?_
            refine w_iv dX9_knot_46 rfl rfl (As := [.int a0]) rfl rfl hJ0.1.1 zs_386 (Nat.le_of_ble_eq_true rfl) ?_
            refine ZV.imp (k_2358 a0 (by omega) (by omega) hN hJ0.1) ?_
            rintro _ ⟨x19, M16, rfl, h20, h21, hJ17, hq18⟩
            have hJ22 := zJ_trans hJ0 hJ17 zSub_nil
            show ZW _ _ _ _ _ _ _ (49, [some (.ref 386), some (.int a0), some (.int a1)], [.int x19], M16)
            refine w_gt dX9_knot_49 (t := 53) rfl ?_
            refine w_eni dX9_knot_53 rfl rfl ?_
            exact ⟨_, _, rfl, (zbot _), (ztop _), hJ22, trivial⟩
        · skip
          refine w_cne_f dX9_knot_27 (t := 39) rfl (by have := zt_1; omega) ?_
          refine w_lo dX9_knot_30 rfl rfl rfl rfl ?_
          refine w_gf dX9_knot_31 rfl hJ0.1.1 zs_386 (zr_386_61 hJ0.1) ?_
          refine w_lo dX9_knot_34 rfl rfl rfl rfl ?_
          refine w_iai dX9_knot_35 hJ0.1 zs_430 (by omega) (by omega) zu_430 ?_
          intro x26 f23 h24 h25
          refine w_gt dX9_knot_36 (t := 53) rfl ?_
          refine w_eni dX9_knot_53 rfl rfl ?_
          exact ⟨_, _, rfl, (zbot _), (ztop _), hJ0, trivial⟩
      · skip
        refine w_ine_f dX9_knot_13 (t := 25) rfl (by omega) ?_
        refine w_lo dX9_knot_16 rfl rfl rfl rfl ?_
        refine w_gf dX9_knot_17 rfl hJ0.1.1 zs_386 (zr_386_60 hJ0.1) ?_
        refine w_lo dX9_knot_20 rfl rfl rfl rfl ?_
        refine w_iai dX9_knot_21 hJ0.1 zs_429 (by omega) (by omega) zu_429 ?_
        intro x30 f27 h28 h29
        refine w_gt dX9_knot_22 (t := 53) rfl ?_
        refine w_eni dX9_knot_53 rfl rfl ?_
        exact ⟨_, _, rfl, (zbot _), (ztop _), hJ0, trivial⟩
    · skip
      refine w_cge_t dX9_isKnot_16 (t := 23) rfl (by omega) ?_
      refine w_ic dX9_isKnot_23 zi_0 ?_
      refine w_en dX9_isKnot_24 rfl ?_
      show ZW _ _ _ _ _ _ _ (5, [some (.ref 386), some (.int a0), some (.int a1)], [.int 0], M0)
      refine w_ine_f dX9_knot_5 (t := 12) rfl (by have := zt_0; omega) ?_
      refine w_ic dX9_knot_8 zi_m1 ?_
      refine w_gt dX9_knot_9 (t := 53) rfl ?_
      refine w_en dX9_knot_53 rfl ?_
      exact ⟨_, _, rfl, (zbot _), (ztop _), hJ0, trivial⟩
set_option maxRecDepth 100000 in
theorem k_2359 {X : List Int32} {d N : Nat} {M0 : zM} (a0 : Int32) (a1 : Int32) (hN : N ≤ 600) (hB0 : zB N M0) : ZV X (d + 2) 2359 [.ref 386, .int a0, .int a1] M0 (zRI N [] M0 (-2147483648) (2147483647) (fun _ _ => True)) := by
  have hJ0 : zJ N [] M0 M0 := zJ_refl hB0
  refine ZV.of (ini := false) rfl (Nat.le_of_ble_eq_true rfl) (by decide +kernel) ?_
  have main : ∀ n : Nat,
      (∀ (M : zM) (v109_1 : Int32) (u109_2 : Int32) (v109_3 : Int32) (v109_4 : Int32), zJ N [] M0 M → ((0 : Int) ≤ v109_1.toInt) → (v109_1.toInt ≤ 5) → ((-2147483648 : Int) ≤ v109_3.toInt) → (v109_3.toInt ≤ 2147483647) → ((0 : Int) ≤ v109_4.toInt) → (v109_4.toInt ≤ 12) → 3 * (12 - v109_4.toInt) + 1 < (n : Int) → ZW X (d + 1) 9 false (some .int) cX9_dream (zRI N [] M0 (-2147483648) (2147483647) (fun _ _ => True)) (109, [some (.ref 386), some (.int v109_1), some (.int u109_2), some (.int v109_3), some (.int v109_4)], [], M)) := by
    intro n
    induction n with
    | zero =>
      exact (fun M v109_1 u109_2 v109_3 v109_4 hJ v109_10 v109_11 v109_30 v109_31 v109_40 v109_41 hn => absurd hn (by omega))
    | succ n ih =>
      have ih109 := ih
      · intro M v109_1 u109_2 v109_3 v109_4 hJ v109_10 v109_11 v109_30 v109_31 v109_40 v109_41 hn
        refine w_lo dX9_dream_109 rfl rfl rfl rfl ?_
        refine w_lo dX9_dream_111 rfl rfl rfl rfl ?_
        refine w_iv dX9_dream_112 rfl rfl (As := []) rfl rfl hJ.1.1 zs_386 (Nat.le_of_ble_eq_true rfl) ?_
        refine ZV.of (ini := false) rfl (Nat.le_of_ble_eq_true rfl) (by decide +kernel) ?_
        show ZW _ _ _ _ _ _ _ (0, [some (.ref 386)], [], M)
        refine w_lo dX9_many_0 rfl rfl rfl rfl ?_
        refine w_gf dX9_many_1 rfl hJ.1.1 zs_386 (zr_386_13 hJ.1) ?_
        refine w_lo dX9_many_4 rfl rfl rfl rfl ?_
        refine w_gfi dX9_many_5 rfl hJ.1 zs_386 (Nat.le_of_ble_eq_true rfl) zo_386_12 ?_
        intro x1 f2 h3 h4
        refine w_iai dX9_many_8 hJ.1 zs_388 (by omega) (by omega) zu_388 ?_
        intro x8 f5 h6 h7
        refine w_eni dX9_many_9 rfl rfl ?_
        show ZW _ _ _ _ _ _ _ (115, [some (.ref 386), some (.int v109_1), some (.int u109_2), some (.int v109_3), some (.int v109_4)], [.int x8, .int v109_4], M)
        rcases zcut v109_4.toInt x8.toInt with h9 | h9
        · skip
          refine w_cge_f dX9_dream_115 (t := 143) rfl (by omega) ?_
          refine w_lo dX9_dream_118 rfl rfl rfl rfl ?_
          refine w_lo dX9_dream_119 rfl rfl rfl rfl ?_
          refine w_gf dX9_dream_120 rfl hJ.1.1 zs_386 (zr_386_52 hJ.1) ?_
          refine w_lo dX9_dream_123 rfl rfl rfl rfl ?_
          refine w_iai dX9_dream_125 hJ.1 zs_421 (by omega) (by omega) zu_421 ?_
          intro x13 f10 h11 h12
          refine w_lo dX9_dream_126 rfl rfl rfl rfl ?_
          rcases Int.decEq x13.toInt v109_1.toInt with h14 | h14
          · skip
            refine w_cne_t dX9_dream_127 (t := 134) rfl (by omega) ?_
            refine w_ic dX9_dream_134 zi_0 ?_
            refine w_add dX9_dream_135 (by have := zt_0; omega) ?_
            intro x15 h16
            have := zt_0
            refine w_lo (ml' := [some (.ref 386), some (.int v109_1), some (.int u109_2), some (.int x15), some (.int v109_4)]) dX9_dream_136 rfl rfl rfl rfl ?_
            refine w_inc (kk := 4) dX9_dream_137 rfl (m := 1) (by decide) (by omega) ?_
            intro x17 h18
            refine ⟨_, rfl, ?_⟩
            show ZW _ _ _ _ _ _ _ (140, [some (.ref 386), some (.int v109_1), some (.int u109_2), some (.int x15), some (.int x17)], [], M)
            refine w_gt dX9_dream_140 (t := 109) rfl ?_
            exact ih109 M v109_1 u109_2 x15 x17 hJ (by omega) (by omega) (zbot _) (ztop _) (by omega) (by omega) (by omega)
          · skip
            refine w_cne_f dX9_dream_127 (t := 134) rfl (by omega) ?_
            refine w_ic dX9_dream_130 zi_1 ?_
            refine w_gt dX9_dream_131 (t := 135) rfl ?_
            refine w_puI dX9_dream_135 rfl rfl ?_
            intro x19
            refine w_lo (ml' := [some (.ref 386), some (.int v109_1), some (.int u109_2), some (.int x19), some (.int v109_4)]) dX9_dream_136 rfl rfl rfl rfl ?_
            refine w_inc (kk := 4) dX9_dream_137 rfl (m := 1) (by decide) (by omega) ?_
            intro x20 h21
            refine ⟨_, rfl, ?_⟩
            show ZW _ _ _ _ _ _ _ (140, [some (.ref 386), some (.int v109_1), some (.int u109_2), some (.int x19), some (.int x20)], [], M)
            refine w_gt dX9_dream_140 (t := 109) rfl ?_
            exact ih109 M v109_1 u109_2 x19 x20 hJ (by omega) (by omega) (zbot _) (ztop _) (by omega) (by omega) (by omega)
        · skip
          refine w_cge_t dX9_dream_115 (t := 143) rfl (by omega) ?_
          refine w_lo dX9_dream_143 rfl rfl rfl rfl ?_
          refine w_eni dX9_dream_144 rfl rfl ?_
          exact ⟨_, _, rfl, (zbot _), (ztop _), hJ, trivial⟩
  have ih109 := main 48
  show ZW _ _ _ _ _ _ _ (0, [some (.ref 386), some (.int a0), some (.int a1), none, none], [], M0)
  refine w_lo dX9_dream_0 rfl rfl rfl rfl ?_
  refine w_lo dX9_dream_1 rfl rfl rfl rfl ?_
  refine w_iv dX9_dream_2 rfl rfl (As := [.int a0]) rfl rfl hJ0.1.1 zs_386 (Nat.le_of_ble_eq_true rfl) ?_
  refine ZV.of (ini := false) rfl (Nat.le_of_ble_eq_true rfl) (by decide +kernel) ?_
  show ZW _ _ _ _ _ _ _ (0, [some (.ref 386), some (.int a0)], [], M0)
  refine w_lo dX9_isDream_0 rfl rfl rfl rfl ?_
  rcases zcut a0.toInt (0 : Int) with h22 | h22
  · skip
    refine w_ilt_t dX9_isDream_1 (t := 21) rfl (by omega) ?_
    refine w_ic dX9_isDream_21 zi_0 ?_
    refine w_en dX9_isDream_22 rfl ?_
    show ZW _ _ _ _ _ _ _ (5, [some (.ref 386), some (.int a0), some (.int a1), none, none], [.int 0], M0)
    refine w_ine_f dX9_dream_5 (t := 10) rfl (by have := zt_0; omega) ?_
    refine w_ic dX9_dream_8 zi_m1 ?_
    refine w_en dX9_dream_9 rfl ?_
    exact ⟨_, _, rfl, (zbot _), (ztop _), hJ0, trivial⟩
  · skip
    refine w_ilt_f dX9_isDream_1 (t := 21) rfl (by omega) ?_
    refine w_lo dX9_isDream_4 rfl rfl rfl rfl ?_
    refine w_lo dX9_isDream_5 rfl rfl rfl rfl ?_
    refine w_gf dX9_isDream_6 rfl hJ0.1.1 zs_386 (zr_386_21 hJ0.1) ?_
    refine w_lo dX9_isDream_9 rfl rfl rfl rfl ?_
    refine w_gfi dX9_isDream_10 rfl hJ0.1 zs_386 (Nat.le_of_ble_eq_true rfl) zo_386_12 ?_
    intro x23 f24 h25 h26
    refine w_iai dX9_isDream_13 hJ0.1 zs_396 (by omega) (by omega) zu_396 ?_
    intro x30 f27 h28 h29
    rcases zcut a0.toInt x30.toInt with h31 | h31
    · skip
      refine w_cge_f dX9_isDream_14 (t := 21) rfl (by omega) ?_
      refine w_ic dX9_isDream_17 zi_1 ?_
      refine w_gt dX9_isDream_18 (t := 22) rfl ?_
      refine w_en dX9_isDream_22 rfl ?_
      show ZW _ _ _ _ _ _ _ (5, [some (.ref 386), some (.int a0), some (.int a1), none, none], [.int 1], M0)
      refine w_ine_t dX9_dream_5 (t := 10) rfl (by have := zt_1; omega) ?_
      refine w_lo dX9_dream_10 rfl rfl rfl rfl ?_
      rcases Int.decEq a1.toInt (0 : Int) with h32 | h32
      rotate_left
      · skip
        refine w_ts dX9_dream_11 (t := 44) (j := 0) h32 (by decide) ?_
        refine w_lo dX9_dream_44 rfl rfl rfl rfl ?_
        refine w_gf dX9_dream_45 rfl hJ0.1.1 zs_386 (zr_386_23 hJ0.1) ?_
        refine w_bi dX9_dream_48 (c := 6) (by decide) ?_
        refine w_lo dX9_dream_50 rfl rfl rfl rfl ?_
        refine w_gf dX9_dream_51 rfl hJ0.1.1 zs_386 f24 ?_
        refine w_mulc dX9_dream_54 zt_6 (by have := zt_6; omega) ?_
        intro x33 h34
        have := zt_6
        refine w_lo dX9_dream_55 rfl rfl rfl rfl ?_
        refine w_add dX9_dream_56 (by omega) ?_
        intro x35 h36
        refine w_iai dX9_dream_57 hJ0.1 zs_398 (by omega) (by omega) zu_398 ?_
        intro x40 f37 h38 h39
        refine w_eni dX9_dream_58 rfl rfl ?_
        exact ⟨_, _, rfl, (zbot _), (ztop _), hJ0, trivial⟩
      rcases Int.decEq a1.toInt (1 : Int) with h41 | h41
      rotate_left
      · skip
        refine w_ts dX9_dream_11 (t := 59) (j := 1) h41 (by decide) ?_
        refine w_lo dX9_dream_59 rfl rfl rfl rfl ?_
        refine w_gf dX9_dream_60 rfl hJ0.1.1 zs_386 (zr_386_24 hJ0.1) ?_
        refine w_bi dX9_dream_63 (c := 6) (by decide) ?_
        refine w_lo dX9_dream_65 rfl rfl rfl rfl ?_
        refine w_gf dX9_dream_66 rfl hJ0.1.1 zs_386 f24 ?_
        refine w_mulc dX9_dream_69 zt_6 (by have := zt_6; omega) ?_
        intro x42 h43
        have := zt_6
        refine w_lo dX9_dream_70 rfl rfl rfl rfl ?_
        refine w_add dX9_dream_71 (by omega) ?_
        intro x44 h45
        refine w_iai dX9_dream_72 hJ0.1 zs_399 (by omega) (by omega) zu_399 ?_
        intro x49 f46 h47 h48
        refine w_eni dX9_dream_73 rfl rfl ?_
        exact ⟨_, _, rfl, (zbot _), (ztop _), hJ0, trivial⟩
      rcases Int.decEq a1.toInt (2 : Int) with h50 | h50
      rotate_left
      · skip
        refine w_ts dX9_dream_11 (t := 74) (j := 2) h50 (by decide) ?_
        refine w_lo dX9_dream_74 rfl rfl rfl rfl ?_
        refine w_gf dX9_dream_75 rfl hJ0.1.1 zs_386 (zr_386_25 hJ0.1) ?_
        refine w_bi dX9_dream_78 (c := 6) (by decide) ?_
        refine w_lo dX9_dream_80 rfl rfl rfl rfl ?_
        refine w_gf dX9_dream_81 rfl hJ0.1.1 zs_386 f24 ?_
        refine w_mulc dX9_dream_84 zt_6 (by have := zt_6; omega) ?_
        intro x51 h52
        have := zt_6
        refine w_lo dX9_dream_85 rfl rfl rfl rfl ?_
        refine w_add dX9_dream_86 (by omega) ?_
        intro x53 h54
        refine w_iai dX9_dream_87 hJ0.1 zs_400 (by omega) (by omega) zu_400 ?_
        intro x58 f55 h56 h57
        refine w_eni dX9_dream_88 rfl rfl ?_
        exact ⟨_, _, rfl, (zbot _), (ztop _), hJ0, trivial⟩
      rcases Int.decEq a1.toInt (3 : Int) with h59 | h59
      rotate_left
      · skip
        refine w_ts dX9_dream_11 (t := 89) (j := 3) h59 (by decide) ?_
        refine w_lo dX9_dream_89 rfl rfl rfl rfl ?_
        refine w_gf dX9_dream_90 rfl hJ0.1.1 zs_386 (zr_386_26 hJ0.1) ?_
        refine w_bi dX9_dream_93 (c := 6) (by decide) ?_
        refine w_lo dX9_dream_95 rfl rfl rfl rfl ?_
        refine w_gf dX9_dream_96 rfl hJ0.1.1 zs_386 f24 ?_
        refine w_mulc dX9_dream_99 zt_6 (by have := zt_6; omega) ?_
        intro x60 h61
        have := zt_6
        refine w_lo dX9_dream_100 rfl rfl rfl rfl ?_
        refine w_add dX9_dream_101 (by omega) ?_
        intro x62 h63
        refine w_iai dX9_dream_102 hJ0.1 zs_401 (by omega) (by omega) zu_401 ?_
        intro x67 f64 h65 h66
        refine w_eni dX9_dream_103 rfl rfl ?_
        exact ⟨_, _, rfl, (zbot _), (ztop _), hJ0, trivial⟩
      rcases Int.decEq a1.toInt (4 : Int) with h68 | h68
      rotate_left
      · skip
        refine w_ts dX9_dream_11 (t := 104) (j := 4) h68 (by decide) ?_
        refine w_ic dX9_dream_104 zi_0 ?_
        refine w_lo (ml' := [some (.ref 386), some (.int a0), some (.int a1), some (.int 0), none]) dX9_dream_105 rfl rfl rfl rfl ?_
        refine w_ic dX9_dream_106 zi_0 ?_
        refine w_lo (ml' := [some (.ref 386), some (.int a0), some (.int a1), some (.int 0), some (.int 0)]) dX9_dream_107 rfl rfl rfl rfl ?_
        exact ih109 M0 a0 a1 0 0 hJ0 (by omega) (by omega) (zbot _) (ztop _) (by have := zt_0; omega) (by have := zt_0; omega) (by have := zt_0; omega)
      refine w_td dX9_dream_11 (t := 145) (by omega) rfl ?_
      refine w_ic dX9_dream_145 zi_m1 ?_
      refine w_en dX9_dream_146 rfl ?_
      exact ⟨_, _, rfl, (zbot _), (ztop _), hJ0, trivial⟩
    · skip
      refine w_cge_t dX9_isDream_14 (t := 21) rfl (by omega) ?_
      refine w_ic dX9_isDream_21 zi_0 ?_
      refine w_en dX9_isDream_22 rfl ?_
      show ZW _ _ _ _ _ _ _ (5, [some (.ref 386), some (.int a0), some (.int a1), none, none], [.int 0], M0)
      refine w_ine_f dX9_dream_5 (t := 10) rfl (by have := zt_0; omega) ?_
      refine w_ic dX9_dream_8 zi_m1 ?_
      refine w_en dX9_dream_9 rfl ?_
      exact ⟨_, _, rfl, (zbot _), (ztop _), hJ0, trivial⟩
set_option maxRecDepth 100000 in
theorem k_2361 {X : List Int32} {d N : Nat} {M0 : zM} (a0 : Int32) (a1 : Int32) (hN : N ≤ 600) (hB0 : zB N M0) : ZV X (d + 2) 2361 [.ref 386, .int a0, .int a1] M0 (zRI N [] M0 (-2147483648) (2147483647) (fun _ _ => True)) := by
  have hJ0 : zJ N [] M0 M0 := zJ_refl hB0
  refine ZV.of (ini := false) rfl (Nat.le_of_ble_eq_true rfl) (by decide +kernel) ?_
  show ZW _ _ _ _ _ _ _ (0, [some (.ref 386), some (.int a0), some (.int a1)], [], M0)
  refine w_lo dX9_tug_0 rfl rfl rfl rfl ?_
  refine w_ic dX9_tug_1 zi_0 ?_
  refine w_lo dX9_tug_2 rfl rfl rfl rfl ?_
  refine w_gf dX9_tug_3 rfl hJ0.1.1 zs_386 (zr_386_62 hJ0.1) ?_
  refine w_ic dX9_tug_6 zi_0 ?_
  refine w_iai dX9_tug_7 hJ0.1 zs_431 (by have := zt_0; omega) (by have := zt_0; omega) zu_431 ?_
  intro x4 f1 h2 h3
  refine w_ic dX9_tug_8 zi_1 ?_
  refine w_sub dX9_tug_9 (by have := zt_1; omega) ?_
  intro x5 h6
  have := zt_1
  refine w_ss dX9_tug_10 rfl rfl (As := [.int a0, .int 0, .int x5]) rfl rfl (Nat.le_of_ble_eq_true rfl) ?_
  refine ZV.of (ini := false) rfl (Nat.le_of_ble_eq_true rfl) (by decide +kernel) ?_
  show ZW _ _ _ _ _ _ _ (0, [some (.int a0), some (.int 0), some (.int x5)], [], M0)
  refine w_lo dX9_is_0 rfl rfl rfl rfl ?_
  refine w_lo dX9_is_1 rfl rfl rfl rfl ?_
  rcases zcut a0.toInt (0 : Int) with h7 | h7
  · skip
    refine w_clt_t dX9_is_2 (t := 14) rfl (by have := zt_0; omega) ?_
    refine w_ic dX9_is_14 zi_0 ?_
    refine w_en dX9_is_15 rfl ?_
    show ZW _ _ _ _ _ _ _ (13, [some (.ref 386), some (.int a0), some (.int a1)], [.int 0], M0)
    refine w_ieq_t dX9_tug_13 (t := 38) rfl (by have := zt_0; omega) ?_
    refine w_ic dX9_tug_38 zi_m1 ?_
    refine w_en dX9_tug_39 rfl ?_
    exact ⟨_, _, rfl, (zbot _), (ztop _), hJ0, trivial⟩
  · skip
    refine w_clt_f dX9_is_2 (t := 14) rfl (by have := zt_0; omega) ?_
    refine w_lo dX9_is_5 rfl rfl rfl rfl ?_
    refine w_lo dX9_is_6 rfl rfl rfl rfl ?_
    rcases zcut x5.toInt a0.toInt with h8 | h8
    · skip
      refine w_cgt_t dX9_is_7 (t := 14) rfl (by omega) ?_
      refine w_ic dX9_is_14 zi_0 ?_
      refine w_en dX9_is_15 rfl ?_
      show ZW _ _ _ _ _ _ _ (13, [some (.ref 386), some (.int a0), some (.int a1)], [.int 0], M0)
      refine w_ieq_t dX9_tug_13 (t := 38) rfl (by have := zt_0; omega) ?_
      refine w_ic dX9_tug_38 zi_m1 ?_
      refine w_en dX9_tug_39 rfl ?_
      exact ⟨_, _, rfl, (zbot _), (ztop _), hJ0, trivial⟩
    · skip
      refine w_cgt_f dX9_is_7 (t := 14) rfl (by omega) ?_
      refine w_ic dX9_is_10 zi_1 ?_
      refine w_gt dX9_is_11 (t := 15) rfl ?_
      refine w_en dX9_is_15 rfl ?_
      show ZW _ _ _ _ _ _ _ (13, [some (.ref 386), some (.int a0), some (.int a1)], [.int 1], M0)
      refine w_ieq_f dX9_tug_13 (t := 38) rfl (by have := zt_1; omega) ?_
      refine w_lo dX9_tug_16 rfl rfl rfl rfl ?_
      refine w_ic dX9_tug_17 zi_0 ?_
      refine w_ic dX9_tug_18 zi_4 ?_
      refine w_ss dX9_tug_19 rfl rfl (As := [.int a1, .int 0, .int 4]) rfl rfl (Nat.le_of_ble_eq_true rfl) ?_
      refine ZV.of (ini := false) rfl (Nat.le_of_ble_eq_true rfl) (by decide +kernel) ?_
      show ZW _ _ _ _ _ _ _ (0, [some (.int a1), some (.int 0), some (.int 4)], [], M0)
      refine w_lo dX9_is_0 rfl rfl rfl rfl ?_
      refine w_lo dX9_is_1 rfl rfl rfl rfl ?_
      rcases zcut a1.toInt (0 : Int) with h9 | h9
      · skip
        refine w_clt_t dX9_is_2 (t := 14) rfl (by have := zt_0; omega) ?_
        refine w_ic dX9_is_14 zi_0 ?_
        refine w_en dX9_is_15 rfl ?_
        show ZW _ _ _ _ _ _ _ (22, [some (.ref 386), some (.int a0), some (.int a1)], [.int 0], M0)
        refine w_ieq_t dX9_tug_22 (t := 38) rfl (by have := zt_0; omega) ?_
        refine w_ic dX9_tug_38 zi_m1 ?_
        refine w_en dX9_tug_39 rfl ?_
        exact ⟨_, _, rfl, (zbot _), (ztop _), hJ0, trivial⟩
      · skip
        refine w_clt_f dX9_is_2 (t := 14) rfl (by have := zt_0; omega) ?_
        refine w_lo dX9_is_5 rfl rfl rfl rfl ?_
        refine w_lo dX9_is_6 rfl rfl rfl rfl ?_
        rcases zcut (4 : Int) a1.toInt with h10 | h10
        · skip
          refine w_cgt_t dX9_is_7 (t := 14) rfl (by have := zt_4; omega) ?_
          refine w_ic dX9_is_14 zi_0 ?_
          refine w_en dX9_is_15 rfl ?_
          show ZW _ _ _ _ _ _ _ (22, [some (.ref 386), some (.int a0), some (.int a1)], [.int 0], M0)
          refine w_ieq_t dX9_tug_22 (t := 38) rfl (by have := zt_0; omega) ?_
          refine w_ic dX9_tug_38 zi_m1 ?_
          refine w_en dX9_tug_39 rfl ?_
          exact ⟨_, _, rfl, (zbot _), (ztop _), hJ0, trivial⟩
        · skip
          refine w_cgt_f dX9_is_7 (t := 14) rfl (by have := zt_4; omega) ?_
          refine w_ic dX9_is_10 zi_1 ?_
          refine w_gt dX9_is_11 (t := 15) rfl ?_
          refine w_en dX9_is_15 rfl ?_
          show ZW _ _ _ _ _ _ _ (22, [some (.ref 386), some (.int a0), some (.int a1)], [.int 1], M0)
          refine w_ieq_f dX9_tug_22 (t := 38) rfl (by have := zt_1; omega) ?_
          refine w_lo dX9_tug_25 rfl rfl rfl rfl ?_
          refine w_gf dX9_tug_26 rfl hJ0.1.1 zs_386 (zr_386_63 hJ0.1) ?_
          refine w_ic dX9_tug_29 zi_5 ?_
          refine w_lo dX9_tug_30 rfl rfl rfl rfl ?_
          refine w_mulc dX9_tug_31 zt_5 (by have := zt_5; omega) ?_
          intro x11 h12
          have := zt_5
          refine w_lo dX9_tug_32 rfl rfl rfl rfl ?_
          refine w_add dX9_tug_33 (by omega) ?_
          intro x13 h14
          refine w_iai dX9_tug_34 hJ0.1 zs_432 (by omega) (by omega) zu_432 ?_
          intro x18 f15 h16 h17
          refine w_gt dX9_tug_35 (t := 39) rfl ?_
          refine w_eni dX9_tug_39 rfl rfl ?_
          exact ⟨_, _, rfl, (zbot _), (ztop _), hJ0, trivial⟩
set_option maxRecDepth 100000 in
theorem k_2363 {X : List Int32} {d N : Nat} {M0 : zM} (a0 : Int32) (ha00 : (0 : Int) ≤ a0.toInt) (ha01 : a0.toInt ≤ 1) (hN : N ≤ 600) (hB0 : zB N M0) : ZV X (d + 2) 2363 [.ref 386, .int a0] M0 (zRV N [(434, 435, 1000), (386, 387, 70), (386, 387, 71), (386, 387, 72)] M0 (fun _ => True)) := by
  have hJ0 : zJ N [(434, 435, 1000), (386, 387, 70), (386, 387, 71), (386, 387, 72)] M0 M0 := zJ_refl hB0
  refine ZV.of (ini := false) rfl (Nat.le_of_ble_eq_true rfl) (by decide +kernel) ?_
  have main : ∀ n : Nat,
      (∀ (M : zM) (v20_1 : Int32) (v20_2 : Int32), zJ N [(434, 435, 1000), (386, 387, 70), (386, 387, 71), (386, 387, 72)] M0 M → ((0 : Int) ≤ v20_1.toInt) → (v20_1.toInt ≤ 1) → ((0 : Int) ≤ v20_2.toInt) → (v20_2.toInt ≤ 12) → 3 * (12 - v20_2.toInt) + 1 < (n : Int) → ZW X (d + 1) 9 false none cX9_rowNow (zRV N [(434, 435, 1000), (386, 387, 70), (386, 387, 71), (386, 387, 72)] M0 (fun _ => True)) (20, [some (.ref 386), some (.int v20_1), some (.int v20_2)], [], M)) := by
    intro n
    induction n with
    | zero =>
      exact (fun M v20_1 v20_2 hJ v20_10 v20_11 v20_20 v20_21 hn => absurd hn (by omega))
    | succ n ih =>
      have ih20 := ih
      · intro M v20_1 v20_2 hJ v20_10 v20_11 v20_20 v20_21 hn
        refine w_lo dX9_rowNow_20 rfl rfl rfl rfl ?_
        refine w_lo dX9_rowNow_21 rfl rfl rfl rfl ?_
        refine w_gfi dX9_rowNow_22 rfl hJ.1 zs_386 (Nat.le_of_ble_eq_true rfl) zo_386_70 ?_
        intro x1 f2 h3 h4
        rcases zcut v20_2.toInt x1.toInt with h5 | h5
        · skip
          refine w_cge_f dX9_rowNow_25 (t := 51) rfl (by omega) ?_
          refine w_lo dX9_rowNow_28 rfl rfl rfl rfl ?_
          refine w_gf dX9_rowNow_29 rfl hJ.1.1 zs_386 (zr_386_69 hJ.1) ?_
          refine w_lo dX9_rowNow_32 rfl rfl rfl rfl ?_
          refine w_lo dX9_rowNow_33 rfl rfl rfl rfl ?_
          refine w_gf dX9_rowNow_34 rfl hJ.1.1 zs_386 (zr_386_50 hJ.1) ?_
          refine w_bi dX9_rowNow_37 (c := 12) (by decide) ?_
          refine w_lo dX9_rowNow_39 rfl rfl rfl rfl ?_
          refine w_mulc dX9_rowNow_40 zt_12 (by have := zt_12; omega) ?_
          intro x6 h7
          have := zt_12
          refine w_lo dX9_rowNow_41 rfl rfl rfl rfl ?_
          refine w_add dX9_rowNow_42 (by omega) ?_
          intro x8 h9
          refine w_iai dX9_rowNow_43 hJ.1 zs_419 (by omega) (by omega) zu_419 ?_
          intro x13 f10 h11 h12
          refine w_isi dX9_rowNow_44 hJ zs_434 (by omega) (by omega) zu_434 (by omega) (by omega) (zIR_a (by omega) (by omega)) ?_
          intro M14 hJ15 f16 hn17
          refine w_inc (kk := 2) dX9_rowNow_45 rfl (m := 1) (by decide) (by omega) ?_
          intro x18 h19
          refine ⟨_, rfl, ?_⟩
          show ZW _ _ _ _ _ _ _ (48, [some (.ref 386), some (.int v20_1), some (.int x18)], [], M14)
          refine w_gt dX9_rowNow_48 (t := 20) rfl ?_
          exact ih20 M14 v20_1 x18 hJ15 (by omega) (by omega) (by omega) (by omega) (by omega)
        · skip
          refine w_cge_t dX9_rowNow_25 (t := 51) rfl (by omega) ?_
          refine w_en dX9_rowNow_51 rfl ?_
          exact ⟨_, rfl, hJ, trivial⟩
  have ih20 := main 48
  show ZW _ _ _ _ _ _ _ (0, [some (.ref 386), some (.int a0), none], [], M0)
  refine w_lo dX9_rowNow_0 rfl rfl rfl rfl ?_
  refine w_lo dX9_rowNow_1 rfl rfl rfl rfl ?_
  refine w_iv dX9_rowNow_2 rfl rfl (As := []) rfl rfl hJ0.1.1 zs_386 (Nat.le_of_ble_eq_true rfl) ?_
  refine ZV.of (ini := false) rfl (Nat.le_of_ble_eq_true rfl) (by decide +kernel) ?_
  show ZW _ _ _ _ _ _ _ (0, [some (.ref 386)], [], M0)
  refine w_lo dX9_many_0 rfl rfl rfl rfl ?_
  refine w_gf dX9_many_1 rfl hJ0.1.1 zs_386 (zr_386_13 hJ0.1) ?_
  refine w_lo dX9_many_4 rfl rfl rfl rfl ?_
  refine w_gfi dX9_many_5 rfl hJ0.1 zs_386 (Nat.le_of_ble_eq_true rfl) zo_386_12 ?_
  intro x20 f21 h22 h23
  refine w_iai dX9_many_8 hJ0.1 zs_388 (by omega) (by omega) zu_388 ?_
  intro x27 f24 h25 h26
  refine w_eni dX9_many_9 rfl rfl ?_
  show ZW _ _ _ _ _ _ _ (5, [some (.ref 386), some (.int a0), none], [.int x27, .ref 386], M0)
  refine w_pfi dX9_rowNow_5 rfl hJ0 zs_386 (Nat.le_of_ble_eq_true rfl) zo_386_70 (by omega) (by omega) (zIR_s (zIR_k (by omega) (by omega))) rfl rfl rfl ?_
  intro M28 hJ29 f30 hn31
  refine w_lo dX9_rowNow_8 rfl rfl rfl rfl ?_
  refine w_ic dX9_rowNow_9 zi_0 ?_
  refine w_pfi dX9_rowNow_10 rfl hJ29 zs_386 (Nat.le_of_ble_eq_true rfl) zo_386_71 (by have := zt_0; omega) (by have := zt_0; omega) (zIR_s (zIR_s (zIR_k (by omega) (by omega)))) rfl rfl rfl ?_
  intro M32 hJ33 f34 hn35
  refine w_lo dX9_rowNow_13 rfl rfl rfl rfl ?_
  refine w_lo dX9_rowNow_14 rfl rfl rfl rfl ?_
  refine w_pfi dX9_rowNow_15 rfl hJ33 zs_386 (Nat.le_of_ble_eq_true rfl) zo_386_72 (by omega) (by omega) (zIR_s (zIR_s (zIR_s (zIR_k (by omega) (by omega))))) rfl rfl rfl ?_
  intro M36 hJ37 f38 hn39
  refine w_ic dX9_rowNow_18 zi_0 ?_
  refine w_lo (ml' := [some (.ref 386), some (.int a0), some (.int 0)]) dX9_rowNow_19 rfl rfl rfl rfl ?_
  exact ih20 M36 a0 0 hJ37 (by omega) (by omega) (by have := zt_0; omega) (by have := zt_0; omega) (by have := zt_0; omega)
set_option maxRecDepth 100000 in
theorem k_2367 {X : List Int32} {d N : Nat} {M0 : zM} (a0 : Int32) (ha00 : (0 : Int) ≤ a0.toInt) (ha01 : a0.toInt ≤ 11) (hN : N ≤ 600) (hB0 : zB N M0) : ZV X (d + 2) 2367 [.ref 386, .int a0] M0 (zRI N [] M0 (0) (2) (fun _ _ => True)) := by
  have hJ0 : zJ N [] M0 M0 := zJ_refl hB0
  refine ZV.of (ini := false) rfl (Nat.le_of_ble_eq_true rfl) (by decide +kernel) ?_
  have main : ∀ n : Nat,
      (∀ (M : zM) (v33_1 : Int32) (o33_2 : Option Value), zJ N [] M0 M → ((0 : Int) ≤ v33_1.toInt) → (v33_1.toInt ≤ 11) → 1 < (n : Int) → ZW X (d + 1) 9 false (some .int) cX9_beside (zRI N [] M0 (0) (2) (fun _ _ => True)) (33, [some (.ref 386), some (.int v33_1), o33_2], [], M)) := by
    intro n
    induction n with
    | zero =>
      exact (fun M v33_1 o33_2 hJ v33_10 v33_11 hn => absurd hn (by omega))
    | succ n ih =>
      have ih33 := ih
      · intro M v33_1 o33_2 hJ v33_10 v33_11 hn
        refine w_ic dX9_beside_33 zi_0 ?_
        refine w_lo (ml' := [some (.ref 386), some (.int v33_1), some (.int 0)]) dX9_beside_34 rfl rfl rfl rfl ?_
        refine w_lo dX9_beside_35 rfl rfl rfl rfl ?_
        refine w_lo dX9_beside_36 rfl rfl rfl rfl ?_
        refine w_lo dX9_beside_37 rfl rfl rfl rfl ?_
        refine w_gfi dX9_beside_38 rfl hJ.1 zs_386 (Nat.le_of_ble_eq_true rfl) zo_386_70 ?_
        intro x1 f2 h3 h4
        refine w_ic dX9_beside_41 zi_1 ?_
        refine w_sub dX9_beside_42 (by have := zt_1; omega) ?_
        intro x5 h6
        have := zt_1
        rcases zcut v33_1.toInt x5.toInt with h7 | h7
        · skip
          refine w_cge_f dX9_beside_43 (t := 73) rfl (by omega) ?_
          refine w_lo dX9_beside_46 rfl rfl rfl rfl ?_
          refine w_lo dX9_beside_47 rfl rfl rfl rfl ?_
          refine w_iv dX9_beside_48 rfl rfl (As := [.int v33_1]) rfl rfl hJ.1.1 zs_386 (Nat.le_of_ble_eq_true rfl) ?_
          refine ZV.of (ini := false) rfl (Nat.le_of_ble_eq_true rfl) (by decide +kernel) ?_
          show ZW _ _ _ _ _ _ _ (0, [some (.ref 386), some (.int v33_1)], [], M)
          refine w_lo dX9_isTied_0 rfl rfl rfl rfl ?_
          refine w_gf dX9_isTied_1 rfl hJ.1.1 zs_386 (zr_386_60 hJ.1) ?_
          refine w_bi dX9_isTied_4 (c := 11) (by decide) ?_
          refine w_lo dX9_isTied_6 rfl rfl rfl rfl ?_
          refine w_gfi dX9_isTied_7 rfl hJ.1 zs_386 (Nat.le_of_ble_eq_true rfl) zo_386_71 ?_
          intro x8 f9 h10 h11
          rcases Int.decEq x8.toInt (0 : Int) with h12 | h12
          · skip
            refine w_ieq_f dX9_isTied_10 (t := 17) rfl (by omega) ?_
            refine w_ic dX9_isTied_13 zi_0 ?_
            refine w_gt dX9_isTied_14 (t := 21) rfl ?_
            refine w_pu (st' := [.int 0, .ref 429]) dX9_isTied_21 rfl rfl ?_
            refine w_lo dX9_isTied_22 rfl rfl rfl rfl ?_
            refine w_add dX9_isTied_23 (by have := zt_0; omega) ?_
            intro x13 h14
            have := zt_0
            refine w_iai dX9_isTied_24 hJ.1 zs_429 (by omega) (by omega) zu_429 ?_
            intro x18 f15 h16 h17
            refine w_ic dX9_isTied_25 zi_1 ?_
            rcases Int.decEq x18.toInt (1 : Int) with h19 | h19
            · skip
              refine w_cne_t dX9_isTied_26 (t := 33) rfl (by have := zt_1; omega) ?_
              refine w_ic dX9_isTied_33 zi_0 ?_
              refine w_en dX9_isTied_34 rfl ?_
              show ZW _ _ _ _ _ _ _ (51, [some (.ref 386), some (.int v33_1), some (.int 0)], [.int 0, .int 0], M)
              refine w_ieq_t dX9_beside_51 (t := 73) rfl (by have := zt_0; omega) ?_
              refine w_ic dX9_beside_73 zi_0 ?_
              refine w_pu (st' := [.int 0]) dX9_beside_74 rfl rfl ?_
              refine w_en dX9_beside_75 rfl ?_
              exact ⟨_, _, rfl, (by have := zt_0; omega), (by have := zt_0; omega), hJ, trivial⟩
            · skip
              refine w_cne_f dX9_isTied_26 (t := 33) rfl (by have := zt_1; omega) ?_
              refine w_ic dX9_isTied_29 zi_1 ?_
              refine w_gt dX9_isTied_30 (t := 34) rfl ?_
              refine w_en dX9_isTied_34 rfl ?_
              show ZW _ _ _ _ _ _ _ (51, [some (.ref 386), some (.int v33_1), some (.int 0)], [.int 1, .int 0], M)
              refine w_ieq_f dX9_beside_51 (t := 73) rfl (by have := zt_1; omega) ?_
              refine w_lo dX9_beside_54 rfl rfl rfl rfl ?_
              refine w_lo dX9_beside_55 rfl rfl rfl rfl ?_
              refine w_gf dX9_beside_56 rfl hJ.1.1 zs_386 (zr_386_69 hJ.1) ?_
              refine w_lo dX9_beside_59 rfl rfl rfl rfl ?_
              refine w_ic dX9_beside_60 zi_1 ?_
              refine w_add dX9_beside_61 (by have := zt_1; omega) ?_
              intro x20 h21
              have := zt_1
              refine w_iai dX9_beside_62 hJ.1 zs_434 (by omega) (by omega) zu_434 ?_
              intro x25 f22 h23 h24
              refine w_iv dX9_beside_63 rfl rfl (As := [.int x25]) rfl rfl hJ.1.1 zs_386 (Nat.le_of_ble_eq_true rfl) ?_
              refine ZV.of (ini := false) rfl (Nat.le_of_ble_eq_true rfl) (by decide +kernel) ?_
              show ZW _ _ _ _ _ _ _ (0, [some (.ref 386), some (.int x25)], [], M)
              refine w_lo dX9_snores_0 rfl rfl rfl rfl ?_
              refine w_gf dX9_snores_1 rfl hJ.1.1 zs_386 (zr_386_19 hJ.1) ?_
              refine w_bi dX9_snores_4 (c := 12) (by decide) ?_
              refine w_lo dX9_snores_6 rfl rfl rfl rfl ?_
              refine w_gfi dX9_snores_7 rfl hJ.1 zs_386 (Nat.le_of_ble_eq_true rfl) zo_386_12 ?_
              intro x26 f27 h28 h29
              refine w_mulc dX9_snores_10 zt_12 (by have := zt_12; omega) ?_
              intro x30 h31
              have := zt_12
              refine w_lo dX9_snores_11 rfl rfl rfl rfl ?_
              refine w_add dX9_snores_12 (by omega) ?_
              intro x32 h33
              refine w_iai dX9_snores_13 hJ.1 zs_394 (by omega) (by omega) zu_394 ?_
              intro x37 f34 h35 h36
              refine w_ic dX9_snores_14 zi_1 ?_
              refine w_and dX9_snores_15 (m := 1) zt_1 (by omega) ?_
              intro x38 h39 h40
              rcases Int.decEq x38.toInt (0 : Int) with h41 | h41
              · skip
                refine w_ieq_f dX9_snores_16 (t := 23) rfl (by omega) ?_
                refine w_ic dX9_snores_19 zi_1 ?_
                refine w_gt dX9_snores_20 (t := 24) rfl ?_
                refine w_en dX9_snores_24 rfl ?_
                show ZW _ _ _ _ _ _ _ (66, [some (.ref 386), some (.int v33_1), some (.int 0)], [.int 1, .int 0], M)
                refine w_ieq_f dX9_beside_66 (t := 73) rfl (by have := zt_1; omega) ?_
                refine w_ic dX9_beside_69 zi_1 ?_
                refine w_gt dX9_beside_70 (t := 74) rfl ?_
                refine w_pu (st' := [.int 1]) dX9_beside_74 rfl rfl ?_
                refine w_en dX9_beside_75 rfl ?_
                exact ⟨_, _, rfl, (by have := zt_1; omega), (by have := zt_1; omega), hJ, trivial⟩
              · skip
                refine w_ieq_t dX9_snores_16 (t := 23) rfl (by omega) ?_
                refine w_ic dX9_snores_23 zi_0 ?_
                refine w_en dX9_snores_24 rfl ?_
                show ZW _ _ _ _ _ _ _ (66, [some (.ref 386), some (.int v33_1), some (.int 0)], [.int 0, .int 0], M)
                refine w_ieq_t dX9_beside_66 (t := 73) rfl (by have := zt_0; omega) ?_
                refine w_ic dX9_beside_73 zi_0 ?_
                refine w_pu (st' := [.int 0]) dX9_beside_74 rfl rfl ?_
                refine w_en dX9_beside_75 rfl ?_
                exact ⟨_, _, rfl, (by have := zt_0; omega), (by have := zt_0; omega), hJ, trivial⟩
          · skip
            refine w_ieq_t dX9_isTied_10 (t := 17) rfl (by omega) ?_
            refine w_lo dX9_isTied_17 rfl rfl rfl rfl ?_
            refine w_gfi dX9_isTied_18 rfl hJ.1 zs_386 (Nat.le_of_ble_eq_true rfl) zo_386_72 ?_
            intro x42 f43 h44 h45
            refine w_mulc dX9_isTied_21 zt_11 (by have := zt_11; omega) ?_
            intro x46 h47
            have := zt_11
            refine w_lo dX9_isTied_22 rfl rfl rfl rfl ?_
            refine w_add dX9_isTied_23 (by omega) ?_
            intro x48 h49
            refine w_iai dX9_isTied_24 hJ.1 zs_429 (by omega) (by omega) zu_429 ?_
            intro x53 f50 h51 h52
            refine w_ic dX9_isTied_25 zi_1 ?_
            rcases Int.decEq x53.toInt (1 : Int) with h54 | h54
            · skip
              refine w_cne_t dX9_isTied_26 (t := 33) rfl (by have := zt_1; omega) ?_
              refine w_ic dX9_isTied_33 zi_0 ?_
              refine w_en dX9_isTied_34 rfl ?_
              show ZW _ _ _ _ _ _ _ (51, [some (.ref 386), some (.int v33_1), some (.int 0)], [.int 0, .int 0], M)
              refine w_ieq_t dX9_beside_51 (t := 73) rfl (by have := zt_0; omega) ?_
              refine w_ic dX9_beside_73 zi_0 ?_
              refine w_pu (st' := [.int 0]) dX9_beside_74 rfl rfl ?_
              refine w_en dX9_beside_75 rfl ?_
              exact ⟨_, _, rfl, (by have := zt_0; omega), (by have := zt_0; omega), hJ, trivial⟩
            · skip
              refine w_cne_f dX9_isTied_26 (t := 33) rfl (by have := zt_1; omega) ?_
              refine w_ic dX9_isTied_29 zi_1 ?_
              refine w_gt dX9_isTied_30 (t := 34) rfl ?_
              refine w_en dX9_isTied_34 rfl ?_
              show ZW _ _ _ _ _ _ _ (51, [some (.ref 386), some (.int v33_1), some (.int 0)], [.int 1, .int 0], M)
              refine w_ieq_f dX9_beside_51 (t := 73) rfl (by have := zt_1; omega) ?_
              refine w_lo dX9_beside_54 rfl rfl rfl rfl ?_
              refine w_lo dX9_beside_55 rfl rfl rfl rfl ?_
              refine w_gf dX9_beside_56 rfl hJ.1.1 zs_386 (zr_386_69 hJ.1) ?_
              refine w_lo dX9_beside_59 rfl rfl rfl rfl ?_
              refine w_ic dX9_beside_60 zi_1 ?_
              refine w_add dX9_beside_61 (by have := zt_1; omega) ?_
              intro x55 h56
              have := zt_1
              refine w_iai dX9_beside_62 hJ.1 zs_434 (by omega) (by omega) zu_434 ?_
              intro x60 f57 h58 h59
              refine w_iv dX9_beside_63 rfl rfl (As := [.int x60]) rfl rfl hJ.1.1 zs_386 (Nat.le_of_ble_eq_true rfl) ?_
              refine ZV.of (ini := false) rfl (Nat.le_of_ble_eq_true rfl) (by decide +kernel) ?_
              show ZW _ _ _ _ _ _ _ (0, [some (.ref 386), some (.int x60)], [], M)
              refine w_lo dX9_snores_0 rfl rfl rfl rfl ?_
              refine w_gf dX9_snores_1 rfl hJ.1.1 zs_386 (zr_386_19 hJ.1) ?_
              refine w_bi dX9_snores_4 (c := 12) (by decide) ?_
              refine w_lo dX9_snores_6 rfl rfl rfl rfl ?_
              refine w_gfi dX9_snores_7 rfl hJ.1 zs_386 (Nat.le_of_ble_eq_true rfl) zo_386_12 ?_
              intro x61 f62 h63 h64
              refine w_mulc dX9_snores_10 zt_12 (by have := zt_12; omega) ?_
              intro x65 h66
              have := zt_12
              refine w_lo dX9_snores_11 rfl rfl rfl rfl ?_
              refine w_add dX9_snores_12 (by omega) ?_
              intro x67 h68
              refine w_iai dX9_snores_13 hJ.1 zs_394 (by omega) (by omega) zu_394 ?_
              intro x72 f69 h70 h71
              refine w_ic dX9_snores_14 zi_1 ?_
              refine w_and dX9_snores_15 (m := 1) zt_1 (by omega) ?_
              intro x73 h74 h75
              rcases Int.decEq x73.toInt (0 : Int) with h76 | h76
              · skip
                refine w_ieq_f dX9_snores_16 (t := 23) rfl (by omega) ?_
                refine w_ic dX9_snores_19 zi_1 ?_
                refine w_gt dX9_snores_20 (t := 24) rfl ?_
                refine w_en dX9_snores_24 rfl ?_
                show ZW _ _ _ _ _ _ _ (66, [some (.ref 386), some (.int v33_1), some (.int 0)], [.int 1, .int 0], M)
                refine w_ieq_f dX9_beside_66 (t := 73) rfl (by have := zt_1; omega) ?_
                refine w_ic dX9_beside_69 zi_1 ?_
                refine w_gt dX9_beside_70 (t := 74) rfl ?_
                refine w_pu (st' := [.int 1]) dX9_beside_74 rfl rfl ?_
                refine w_en dX9_beside_75 rfl ?_
                exact ⟨_, _, rfl, (by have := zt_1; omega), (by have := zt_1; omega), hJ, trivial⟩
              · skip
                refine w_ieq_t dX9_snores_16 (t := 23) rfl (by omega) ?_
                refine w_ic dX9_snores_23 zi_0 ?_
                refine w_en dX9_snores_24 rfl ?_
                show ZW _ _ _ _ _ _ _ (66, [some (.ref 386), some (.int v33_1), some (.int 0)], [.int 0, .int 0], M)
                refine w_ieq_t dX9_beside_66 (t := 73) rfl (by have := zt_0; omega) ?_
                refine w_ic dX9_beside_73 zi_0 ?_
                refine w_pu (st' := [.int 0]) dX9_beside_74 rfl rfl ?_
                refine w_en dX9_beside_75 rfl ?_
                exact ⟨_, _, rfl, (by have := zt_0; omega), (by have := zt_0; omega), hJ, trivial⟩
        · skip
          refine w_cge_t dX9_beside_43 (t := 73) rfl (by omega) ?_
          refine w_ic dX9_beside_73 zi_0 ?_
          refine w_pu (st' := [.int 0]) dX9_beside_74 rfl rfl ?_
          refine w_en dX9_beside_75 rfl ?_
          exact ⟨_, _, rfl, (by have := zt_0; omega), (by have := zt_0; omega), hJ, trivial⟩
  have ih33 := main 6
  show ZW _ _ _ _ _ _ _ (0, [some (.ref 386), some (.int a0), none], [], M0)
  refine w_lo dX9_beside_0 rfl rfl rfl rfl ?_
  rcases zcut (0 : Int) a0.toInt with h77 | h77
  · skip
    refine w_ile_f dX9_beside_1 (t := 33) rfl (by omega) ?_
    refine w_lo dX9_beside_4 rfl rfl rfl rfl ?_
    refine w_lo dX9_beside_5 rfl rfl rfl rfl ?_
    refine w_ic dX9_beside_6 zi_1 ?_
    refine w_sub dX9_beside_7 (by have := zt_1; omega) ?_
    intro x78 h79
    have := zt_1
    refine w_iv dX9_beside_8 rfl rfl (As := [.int x78]) rfl rfl hJ0.1.1 zs_386 (Nat.le_of_ble_eq_true rfl) ?_
    refine ZV.of (ini := false) rfl (Nat.le_of_ble_eq_true rfl) (by decide +kernel) ?_
    show ZW _ _ _ _ _ _ _ (0, [some (.ref 386), some (.int x78)], [], M0)
    refine w_lo dX9_isTied_0 rfl rfl rfl rfl ?_
    refine w_gf dX9_isTied_1 rfl hJ0.1.1 zs_386 (zr_386_60 hJ0.1) ?_
    refine w_bi dX9_isTied_4 (c := 11) (by decide) ?_
    refine w_lo dX9_isTied_6 rfl rfl rfl rfl ?_
    refine w_gfi dX9_isTied_7 rfl hJ0.1 zs_386 (Nat.le_of_ble_eq_true rfl) zo_386_71 ?_
    intro x80 f81 h82 h83
    rcases Int.decEq x80.toInt (0 : Int) with h84 | h84
    · skip
      refine w_ieq_f dX9_isTied_10 (t := 17) rfl (by omega) ?_
      refine w_ic dX9_isTied_13 zi_0 ?_
      refine w_gt dX9_isTied_14 (t := 21) rfl ?_
      refine w_pu (st' := [.int 0, .ref 429]) dX9_isTied_21 rfl rfl ?_
      refine w_lo dX9_isTied_22 rfl rfl rfl rfl ?_
      refine w_add dX9_isTied_23 (by have := zt_0; omega) ?_
      intro x85 h86
      have := zt_0
      refine w_iai dX9_isTied_24 hJ0.1 zs_429 (by omega) (by omega) zu_429 ?_
      intro x90 f87 h88 h89
      refine w_ic dX9_isTied_25 zi_1 ?_
      rcases Int.decEq x90.toInt (1 : Int) with h91 | h91
      · skip
        refine w_cne_t dX9_isTied_26 (t := 33) rfl (by have := zt_1; omega) ?_
        refine w_ic dX9_isTied_33 zi_0 ?_
        refine w_en dX9_isTied_34 rfl ?_
        show ZW _ _ _ _ _ _ _ (11, [some (.ref 386), some (.int a0), none], [.int 0], M0)
        refine w_ieq_t dX9_beside_11 (t := 33) rfl (by have := zt_0; omega) ?_
        exact ih33 M0 a0 none hJ0 (by omega) (by omega) (by omega)
      · skip
        refine w_cne_f dX9_isTied_26 (t := 33) rfl (by have := zt_1; omega) ?_
        refine w_ic dX9_isTied_29 zi_1 ?_
        refine w_gt dX9_isTied_30 (t := 34) rfl ?_
        refine w_en dX9_isTied_34 rfl ?_
        show ZW _ _ _ _ _ _ _ (11, [some (.ref 386), some (.int a0), none], [.int 1], M0)
        refine w_ieq_f dX9_beside_11 (t := 33) rfl (by have := zt_1; omega) ?_
        refine w_lo dX9_beside_14 rfl rfl rfl rfl ?_
        refine w_lo dX9_beside_15 rfl rfl rfl rfl ?_
        refine w_gf dX9_beside_16 rfl hJ0.1.1 zs_386 (zr_386_69 hJ0.1) ?_
        refine w_lo dX9_beside_19 rfl rfl rfl rfl ?_
        refine w_ic dX9_beside_20 zi_1 ?_
        refine w_sub dX9_beside_21 (by have := zt_1; omega) ?_
        intro x92 h93
        have := zt_1
        refine w_iai dX9_beside_22 hJ0.1 zs_434 (by omega) (by omega) zu_434 ?_
        intro x97 f94 h95 h96
        refine w_iv dX9_beside_23 rfl rfl (As := [.int x97]) rfl rfl hJ0.1.1 zs_386 (Nat.le_of_ble_eq_true rfl) ?_
        refine ZV.of (ini := false) rfl (Nat.le_of_ble_eq_true rfl) (by decide +kernel) ?_
        show ZW _ _ _ _ _ _ _ (0, [some (.ref 386), some (.int x97)], [], M0)
        refine w_lo dX9_snores_0 rfl rfl rfl rfl ?_
        refine w_gf dX9_snores_1 rfl hJ0.1.1 zs_386 (zr_386_19 hJ0.1) ?_
        refine w_bi dX9_snores_4 (c := 12) (by decide) ?_
        refine w_lo dX9_snores_6 rfl rfl rfl rfl ?_
        refine w_gfi dX9_snores_7 rfl hJ0.1 zs_386 (Nat.le_of_ble_eq_true rfl) zo_386_12 ?_
        intro x98 f99 h100 h101
        refine w_mulc dX9_snores_10 zt_12 (by have := zt_12; omega) ?_
        intro x102 h103
        have := zt_12
        refine w_lo dX9_snores_11 rfl rfl rfl rfl ?_
        refine w_add dX9_snores_12 (by omega) ?_
        intro x104 h105
        refine w_iai dX9_snores_13 hJ0.1 zs_394 (by omega) (by omega) zu_394 ?_
        intro x109 f106 h107 h108
        refine w_ic dX9_snores_14 zi_1 ?_
        refine w_and dX9_snores_15 (m := 1) zt_1 (by omega) ?_
        intro x110 h111 h112
        rcases Int.decEq x110.toInt (0 : Int) with h113 | h113
        · skip
          refine w_ieq_f dX9_snores_16 (t := 23) rfl (by omega) ?_
          refine w_ic dX9_snores_19 zi_1 ?_
          refine w_gt dX9_snores_20 (t := 24) rfl ?_
          refine w_en dX9_snores_24 rfl ?_
          show ZW _ _ _ _ _ _ _ (26, [some (.ref 386), some (.int a0), none], [.int 1], M0)
          refine w_ieq_f dX9_beside_26 (t := 33) rfl (by have := zt_1; omega) ?_
          refine w_ic dX9_beside_29 zi_1 ?_
          refine w_gt dX9_beside_30 (t := 34) rfl ?_
          refine w_lo (ml' := [some (.ref 386), some (.int a0), some (.int 1)]) dX9_beside_34 rfl rfl rfl rfl ?_
          refine w_lo dX9_beside_35 rfl rfl rfl rfl ?_
          refine w_lo dX9_beside_36 rfl rfl rfl rfl ?_
          refine w_lo dX9_beside_37 rfl rfl rfl rfl ?_
          refine w_gfi dX9_beside_38 rfl hJ0.1 zs_386 (Nat.le_of_ble_eq_true rfl) zo_386_70 ?_
          intro x114 f115 h116 h117
          refine w_ic dX9_beside_41 zi_1 ?_
          refine w_sub dX9_beside_42 (by have := zt_1; omega) ?_
          intro x118 h119
          have := zt_1
          rcases zcut a0.toInt x118.toInt with h120 | h120
          · skip
            refine w_cge_f dX9_beside_43 (t := 73) rfl (by omega) ?_
            refine w_lo dX9_beside_46 rfl rfl rfl rfl ?_
            refine w_lo dX9_beside_47 rfl rfl rfl rfl ?_
            refine w_iv dX9_beside_48 rfl rfl (As := [.int a0]) rfl rfl hJ0.1.1 zs_386 (Nat.le_of_ble_eq_true rfl) ?_
            refine ZV.of (ini := false) rfl (Nat.le_of_ble_eq_true rfl) (by decide +kernel) ?_
            show ZW _ _ _ _ _ _ _ (0, [some (.ref 386), some (.int a0)], [], M0)
            refine w_lo dX9_isTied_0 rfl rfl rfl rfl ?_
            refine w_gf dX9_isTied_1 rfl hJ0.1.1 zs_386 (zr_386_60 hJ0.1) ?_
            refine w_bi dX9_isTied_4 (c := 11) (by decide) ?_
            refine w_lo dX9_isTied_6 rfl rfl rfl rfl ?_
            refine w_gf dX9_isTied_7 rfl hJ0.1.1 zs_386 f81 ?_
            refine w_ieq_f dX9_isTied_10 (t := 17) rfl (by omega) ?_
            refine w_ic dX9_isTied_13 zi_0 ?_
            refine w_gt dX9_isTied_14 (t := 21) rfl ?_
            refine w_pu (st' := [.int 0, .ref 429]) dX9_isTied_21 rfl rfl ?_
            refine w_lo dX9_isTied_22 rfl rfl rfl rfl ?_
            refine w_add dX9_isTied_23 (by have := zt_0; omega) ?_
            intro x121 h122
            have := zt_0
            refine w_iai dX9_isTied_24 hJ0.1 zs_429 (by omega) (by omega) zu_429 ?_
            intro x126 f123 h124 h125
            refine w_ic dX9_isTied_25 zi_1 ?_
            rcases Int.decEq x126.toInt (1 : Int) with h127 | h127
            · skip
              refine w_cne_t dX9_isTied_26 (t := 33) rfl (by have := zt_1; omega) ?_
              refine w_ic dX9_isTied_33 zi_0 ?_
              refine w_en dX9_isTied_34 rfl ?_
              show ZW _ _ _ _ _ _ _ (51, [some (.ref 386), some (.int a0), some (.int 1)], [.int 0, .int 1], M0)
              refine w_ieq_t dX9_beside_51 (t := 73) rfl (by have := zt_0; omega) ?_
              refine w_ic dX9_beside_73 zi_0 ?_
              refine w_pu (st' := [.int 1]) dX9_beside_74 rfl rfl ?_
              refine w_en dX9_beside_75 rfl ?_
              exact ⟨_, _, rfl, (by have := zt_1; omega), (by have := zt_1; omega), hJ0, trivial⟩
            · skip
              refine w_cne_f dX9_isTied_26 (t := 33) rfl (by have := zt_1; omega) ?_
              refine w_ic dX9_isTied_29 zi_1 ?_
              refine w_gt dX9_isTied_30 (t := 34) rfl ?_
              refine w_en dX9_isTied_34 rfl ?_
              show ZW _ _ _ _ _ _ _ (51, [some (.ref 386), some (.int a0), some (.int 1)], [.int 1, .int 1], M0)
              refine w_ieq_f dX9_beside_51 (t := 73) rfl (by have := zt_1; omega) ?_
              refine w_lo dX9_beside_54 rfl rfl rfl rfl ?_
              refine w_lo dX9_beside_55 rfl rfl rfl rfl ?_
              refine w_gf dX9_beside_56 rfl hJ0.1.1 zs_386 (zr_386_69 hJ0.1) ?_
              refine w_lo dX9_beside_59 rfl rfl rfl rfl ?_
              refine w_ic dX9_beside_60 zi_1 ?_
              refine w_add dX9_beside_61 (by have := zt_1; omega) ?_
              intro x128 h129
              have := zt_1
              refine w_iai dX9_beside_62 hJ0.1 zs_434 (by omega) (by omega) zu_434 ?_
              intro x133 f130 h131 h132
              refine w_iv dX9_beside_63 rfl rfl (As := [.int x133]) rfl rfl hJ0.1.1 zs_386 (Nat.le_of_ble_eq_true rfl) ?_
              refine ZV.of (ini := false) rfl (Nat.le_of_ble_eq_true rfl) (by decide +kernel) ?_
              show ZW _ _ _ _ _ _ _ (0, [some (.ref 386), some (.int x133)], [], M0)
              refine w_lo dX9_snores_0 rfl rfl rfl rfl ?_
              refine w_gf dX9_snores_1 rfl hJ0.1.1 zs_386 (zr_386_19 hJ0.1) ?_
              refine w_bi dX9_snores_4 (c := 12) (by decide) ?_
              refine w_lo dX9_snores_6 rfl rfl rfl rfl ?_
              refine w_gf dX9_snores_7 rfl hJ0.1.1 zs_386 f99 ?_
              refine w_mulc dX9_snores_10 zt_12 (by have := zt_12; omega) ?_
              intro x134 h135
              have := zt_12
              refine w_lo dX9_snores_11 rfl rfl rfl rfl ?_
              refine w_add dX9_snores_12 (by omega) ?_
              intro x136 h137
              refine w_iai dX9_snores_13 hJ0.1 zs_394 (by omega) (by omega) zu_394 ?_
              intro x141 f138 h139 h140
              refine w_ic dX9_snores_14 zi_1 ?_
              refine w_and dX9_snores_15 (m := 1) zt_1 (by omega) ?_
              intro x142 h143 h144
              rcases Int.decEq x142.toInt (0 : Int) with h145 | h145
              · skip
                refine w_ieq_f dX9_snores_16 (t := 23) rfl (by omega) ?_
                refine w_ic dX9_snores_19 zi_1 ?_
                refine w_gt dX9_snores_20 (t := 24) rfl ?_
                refine w_en dX9_snores_24 rfl ?_
                show ZW _ _ _ _ _ _ _ (66, [some (.ref 386), some (.int a0), some (.int 1)], [.int 1, .int 1], M0)
                refine w_ieq_f dX9_beside_66 (t := 73) rfl (by have := zt_1; omega) ?_
                refine w_ic dX9_beside_69 zi_1 ?_
                refine w_gt dX9_beside_70 (t := 74) rfl ?_
                refine w_pu (st' := [.int 2]) dX9_beside_74 rfl rfl ?_
                refine w_en dX9_beside_75 rfl ?_
                exact ⟨_, _, rfl, (by have := zt_2; omega), (by have := zt_2; omega), hJ0, trivial⟩
              · skip
                refine w_ieq_t dX9_snores_16 (t := 23) rfl (by omega) ?_
                refine w_ic dX9_snores_23 zi_0 ?_
                refine w_en dX9_snores_24 rfl ?_
                show ZW _ _ _ _ _ _ _ (66, [some (.ref 386), some (.int a0), some (.int 1)], [.int 0, .int 1], M0)
                refine w_ieq_t dX9_beside_66 (t := 73) rfl (by have := zt_0; omega) ?_
                refine w_ic dX9_beside_73 zi_0 ?_
                refine w_pu (st' := [.int 1]) dX9_beside_74 rfl rfl ?_
                refine w_en dX9_beside_75 rfl ?_
                exact ⟨_, _, rfl, (by have := zt_1; omega), (by have := zt_1; omega), hJ0, trivial⟩
          · skip
            refine w_cge_t dX9_beside_43 (t := 73) rfl (by omega) ?_
            refine w_ic dX9_beside_73 zi_0 ?_
            refine w_pu (st' := [.int 1]) dX9_beside_74 rfl rfl ?_
            refine w_en dX9_beside_75 rfl ?_
            exact ⟨_, _, rfl, (by have := zt_1; omega), (by have := zt_1; omega), hJ0, trivial⟩
        · skip
          refine w_ieq_t dX9_snores_16 (t := 23) rfl (by omega) ?_
          refine w_ic dX9_snores_23 zi_0 ?_
          refine w_en dX9_snores_24 rfl ?_
          show ZW _ _ _ _ _ _ _ (26, [some (.ref 386), some (.int a0), none], [.int 0], M0)
          refine w_ieq_t dX9_beside_26 (t := 33) rfl (by have := zt_0; omega) ?_
          exact ih33 M0 a0 none hJ0 (by omega) (by omega) (by omega)
    · skip
      refine w_ieq_t dX9_isTied_10 (t := 17) rfl (by omega) ?_
      refine w_lo dX9_isTied_17 rfl rfl rfl rfl ?_
      refine w_gfi dX9_isTied_18 rfl hJ0.1 zs_386 (Nat.le_of_ble_eq_true rfl) zo_386_72 ?_
      intro x146 f147 h148 h149
      refine w_mulc dX9_isTied_21 zt_11 (by have := zt_11; omega) ?_
      intro x150 h151
      have := zt_11
      refine w_lo dX9_isTied_22 rfl rfl rfl rfl ?_
      refine w_add dX9_isTied_23 (by omega) ?_
      intro x152 h153
      refine w_iai dX9_isTied_24 hJ0.1 zs_429 (by omega) (by omega) zu_429 ?_
      intro x157 f154 h155 h156
      refine w_ic dX9_isTied_25 zi_1 ?_
      rcases Int.decEq x157.toInt (1 : Int) with h158 | h158
      · skip
        refine w_cne_t dX9_isTied_26 (t := 33) rfl (by have := zt_1; omega) ?_
        refine w_ic dX9_isTied_33 zi_0 ?_
        refine w_en dX9_isTied_34 rfl ?_
        show ZW _ _ _ _ _ _ _ (11, [some (.ref 386), some (.int a0), none], [.int 0], M0)
        refine w_ieq_t dX9_beside_11 (t := 33) rfl (by have := zt_0; omega) ?_
        exact ih33 M0 a0 none hJ0 (by omega) (by omega) (by omega)
      · skip
        refine w_cne_f dX9_isTied_26 (t := 33) rfl (by have := zt_1; omega) ?_
        refine w_ic dX9_isTied_29 zi_1 ?_
        refine w_gt dX9_isTied_30 (t := 34) rfl ?_
        refine w_en dX9_isTied_34 rfl ?_
        show ZW _ _ _ _ _ _ _ (11, [some (.ref 386), some (.int a0), none], [.int 1], M0)
        refine w_ieq_f dX9_beside_11 (t := 33) rfl (by have := zt_1; omega) ?_
        refine w_lo dX9_beside_14 rfl rfl rfl rfl ?_
        refine w_lo dX9_beside_15 rfl rfl rfl rfl ?_
        refine w_gf dX9_beside_16 rfl hJ0.1.1 zs_386 (zr_386_69 hJ0.1) ?_
        refine w_lo dX9_beside_19 rfl rfl rfl rfl ?_
        refine w_ic dX9_beside_20 zi_1 ?_
        refine w_sub dX9_beside_21 (by have := zt_1; omega) ?_
        intro x159 h160
        have := zt_1
        refine w_iai dX9_beside_22 hJ0.1 zs_434 (by omega) (by omega) zu_434 ?_
        intro x164 f161 h162 h163
        refine w_iv dX9_beside_23 rfl rfl (As := [.int x164]) rfl rfl hJ0.1.1 zs_386 (Nat.le_of_ble_eq_true rfl) ?_
        refine ZV.of (ini := false) rfl (Nat.le_of_ble_eq_true rfl) (by decide +kernel) ?_
        show ZW _ _ _ _ _ _ _ (0, [some (.ref 386), some (.int x164)], [], M0)
        refine w_lo dX9_snores_0 rfl rfl rfl rfl ?_
        refine w_gf dX9_snores_1 rfl hJ0.1.1 zs_386 (zr_386_19 hJ0.1) ?_
        refine w_bi dX9_snores_4 (c := 12) (by decide) ?_
        refine w_lo dX9_snores_6 rfl rfl rfl rfl ?_
        refine w_gfi dX9_snores_7 rfl hJ0.1 zs_386 (Nat.le_of_ble_eq_true rfl) zo_386_12 ?_
        intro x165 f166 h167 h168
        refine w_mulc dX9_snores_10 zt_12 (by have := zt_12; omega) ?_
        intro x169 h170
        have := zt_12
        refine w_lo dX9_snores_11 rfl rfl rfl rfl ?_
        refine w_add dX9_snores_12 (by omega) ?_
        intro x171 h172
        refine w_iai dX9_snores_13 hJ0.1 zs_394 (by omega) (by omega) zu_394 ?_
        intro x176 f173 h174 h175
        refine w_ic dX9_snores_14 zi_1 ?_
        refine w_and dX9_snores_15 (m := 1) zt_1 (by omega) ?_
        intro x177 h178 h179
        rcases Int.decEq x177.toInt (0 : Int) with h180 | h180
        · skip
          refine w_ieq_f dX9_snores_16 (t := 23) rfl (by omega) ?_
          refine w_ic dX9_snores_19 zi_1 ?_
          refine w_gt dX9_snores_20 (t := 24) rfl ?_
          refine w_en dX9_snores_24 rfl ?_
          show ZW _ _ _ _ _ _ _ (26, [some (.ref 386), some (.int a0), none], [.int 1], M0)
          refine w_ieq_f dX9_beside_26 (t := 33) rfl (by have := zt_1; omega) ?_
          refine w_ic dX9_beside_29 zi_1 ?_
          refine w_gt dX9_beside_30 (t := 34) rfl ?_
          refine w_lo (ml' := [some (.ref 386), some (.int a0), some (.int 1)]) dX9_beside_34 rfl rfl rfl rfl ?_
          refine w_lo dX9_beside_35 rfl rfl rfl rfl ?_
          refine w_lo dX9_beside_36 rfl rfl rfl rfl ?_
          refine w_lo dX9_beside_37 rfl rfl rfl rfl ?_
          refine w_gfi dX9_beside_38 rfl hJ0.1 zs_386 (Nat.le_of_ble_eq_true rfl) zo_386_70 ?_
          intro x181 f182 h183 h184
          refine w_ic dX9_beside_41 zi_1 ?_
          refine w_sub dX9_beside_42 (by have := zt_1; omega) ?_
          intro x185 h186
          have := zt_1
          rcases zcut a0.toInt x185.toInt with h187 | h187
          · skip
            refine w_cge_f dX9_beside_43 (t := 73) rfl (by omega) ?_
            refine w_lo dX9_beside_46 rfl rfl rfl rfl ?_
            refine w_lo dX9_beside_47 rfl rfl rfl rfl ?_
            refine w_iv dX9_beside_48 rfl rfl (As := [.int a0]) rfl rfl hJ0.1.1 zs_386 (Nat.le_of_ble_eq_true rfl) ?_
            refine ZV.of (ini := false) rfl (Nat.le_of_ble_eq_true rfl) (by decide +kernel) ?_
            show ZW _ _ _ _ _ _ _ (0, [some (.ref 386), some (.int a0)], [], M0)
            refine w_lo dX9_isTied_0 rfl rfl rfl rfl ?_
            refine w_gf dX9_isTied_1 rfl hJ0.1.1 zs_386 (zr_386_60 hJ0.1) ?_
            refine w_bi dX9_isTied_4 (c := 11) (by decide) ?_
            refine w_lo dX9_isTied_6 rfl rfl rfl rfl ?_
            refine w_gf dX9_isTied_7 rfl hJ0.1.1 zs_386 f81 ?_
            refine w_ieq_t dX9_isTied_10 (t := 17) rfl (by omega) ?_
            refine w_lo dX9_isTied_17 rfl rfl rfl rfl ?_
            refine w_gf dX9_isTied_18 rfl hJ0.1.1 zs_386 f147 ?_
            refine w_mulc dX9_isTied_21 zt_11 (by have := zt_11; omega) ?_
            intro x188 h189
            have := zt_11
            refine w_lo dX9_isTied_22 rfl rfl rfl rfl ?_
            refine w_add dX9_isTied_23 (by omega) ?_
            intro x190 h191
            refine w_iai dX9_isTied_24 hJ0.1 zs_429 (by omega) (by omega) zu_429 ?_
            intro x195 f192 h193 h194
            refine w_ic dX9_isTied_25 zi_1 ?_
            rcases Int.decEq x195.toInt (1 : Int) with h196 | h196
            · skip
              refine w_cne_t dX9_isTied_26 (t := 33) rfl (by have := zt_1; omega) ?_
              refine w_ic dX9_isTied_33 zi_0 ?_
              refine w_en dX9_isTied_34 rfl ?_
              show ZW _ _ _ _ _ _ _ (51, [some (.ref 386), some (.int a0), some (.int 1)], [.int 0, .int 1], M0)
              refine w_ieq_t dX9_beside_51 (t := 73) rfl (by have := zt_0; omega) ?_
              refine w_ic dX9_beside_73 zi_0 ?_
              refine w_pu (st' := [.int 1]) dX9_beside_74 rfl rfl ?_
              refine w_en dX9_beside_75 rfl ?_
              exact ⟨_, _, rfl, (by have := zt_1; omega), (by have := zt_1; omega), hJ0, trivial⟩
            · skip
              refine w_cne_f dX9_isTied_26 (t := 33) rfl (by have := zt_1; omega) ?_
              refine w_ic dX9_isTied_29 zi_1 ?_
              refine w_gt dX9_isTied_30 (t := 34) rfl ?_
              refine w_en dX9_isTied_34 rfl ?_
              show ZW _ _ _ _ _ _ _ (51, [some (.ref 386), some (.int a0), some (.int 1)], [.int 1, .int 1], M0)
              refine w_ieq_f dX9_beside_51 (t := 73) rfl (by have := zt_1; omega) ?_
              refine w_lo dX9_beside_54 rfl rfl rfl rfl ?_
              refine w_lo dX9_beside_55 rfl rfl rfl rfl ?_
              refine w_gf dX9_beside_56 rfl hJ0.1.1 zs_386 (zr_386_69 hJ0.1) ?_
              refine w_lo dX9_beside_59 rfl rfl rfl rfl ?_
              refine w_ic dX9_beside_60 zi_1 ?_
              refine w_add dX9_beside_61 (by have := zt_1; omega) ?_
              intro x197 h198
              have := zt_1
              refine w_iai dX9_beside_62 hJ0.1 zs_434 (by omega) (by omega) zu_434 ?_
              intro x202 f199 h200 h201
              refine w_iv dX9_beside_63 rfl rfl (As := [.int x202]) rfl rfl hJ0.1.1 zs_386 (Nat.le_of_ble_eq_true rfl) ?_
              refine ZV.of (ini := false) rfl (Nat.le_of_ble_eq_true rfl) (by decide +kernel) ?_
              show ZW _ _ _ _ _ _ _ (0, [some (.ref 386), some (.int x202)], [], M0)
              refine w_lo dX9_snores_0 rfl rfl rfl rfl ?_
              refine w_gf dX9_snores_1 rfl hJ0.1.1 zs_386 (zr_386_19 hJ0.1) ?_
              refine w_bi dX9_snores_4 (c := 12) (by decide) ?_
              refine w_lo dX9_snores_6 rfl rfl rfl rfl ?_
              refine w_gf dX9_snores_7 rfl hJ0.1.1 zs_386 f166 ?_
              refine w_mulc dX9_snores_10 zt_12 (by have := zt_12; omega) ?_
              intro x203 h204
              have := zt_12
              refine w_lo dX9_snores_11 rfl rfl rfl rfl ?_
              refine w_add dX9_snores_12 (by omega) ?_
              intro x205 h206
              refine w_iai dX9_snores_13 hJ0.1 zs_394 (by omega) (by omega) zu_394 ?_
              intro x210 f207 h208 h209
              refine w_ic dX9_snores_14 zi_1 ?_
              refine w_and dX9_snores_15 (m := 1) zt_1 (by omega) ?_
              intro x211 h212 h213
              rcases Int.decEq x211.toInt (0 : Int) with h214 | h214
              · skip
                refine w_ieq_f dX9_snores_16 (t := 23) rfl (by omega) ?_
                refine w_ic dX9_snores_19 zi_1 ?_
                refine w_gt dX9_snores_20 (t := 24) rfl ?_
                refine w_en dX9_snores_24 rfl ?_
                show ZW _ _ _ _ _ _ _ (66, [some (.ref 386), some (.int a0), some (.int 1)], [.int 1, .int 1], M0)
                refine w_ieq_f dX9_beside_66 (t := 73) rfl (by have := zt_1; omega) ?_
                refine w_ic dX9_beside_69 zi_1 ?_
                refine w_gt dX9_beside_70 (t := 74) rfl ?_
                refine w_pu (st' := [.int 2]) dX9_beside_74 rfl rfl ?_
                refine w_en dX9_beside_75 rfl ?_
                exact ⟨_, _, rfl, (by have := zt_2; omega), (by have := zt_2; omega), hJ0, trivial⟩
              · skip
                refine w_ieq_t dX9_snores_16 (t := 23) rfl (by omega) ?_
                refine w_ic dX9_snores_23 zi_0 ?_
                refine w_en dX9_snores_24 rfl ?_
                show ZW _ _ _ _ _ _ _ (66, [some (.ref 386), some (.int a0), some (.int 1)], [.int 0, .int 1], M0)
                refine w_ieq_t dX9_beside_66 (t := 73) rfl (by have := zt_0; omega) ?_
                refine w_ic dX9_beside_73 zi_0 ?_
                refine w_pu (st' := [.int 1]) dX9_beside_74 rfl rfl ?_
                refine w_en dX9_beside_75 rfl ?_
                exact ⟨_, _, rfl, (by have := zt_1; omega), (by have := zt_1; omega), hJ0, trivial⟩
          · skip
            refine w_cge_t dX9_beside_43 (t := 73) rfl (by omega) ?_
            refine w_ic dX9_beside_73 zi_0 ?_
            refine w_pu (st' := [.int 1]) dX9_beside_74 rfl rfl ?_
            refine w_en dX9_beside_75 rfl ?_
            exact ⟨_, _, rfl, (by have := zt_1; omega), (by have := zt_1; omega), hJ0, trivial⟩
        · skip
          refine w_ieq_t dX9_snores_16 (t := 23) rfl (by omega) ?_
          refine w_ic dX9_snores_23 zi_0 ?_
          refine w_en dX9_snores_24 rfl ?_
          show ZW _ _ _ _ _ _ _ (26, [some (.ref 386), some (.int a0), none], [.int 0], M0)
          refine w_ieq_t dX9_beside_26 (t := 33) rfl (by have := zt_0; omega) ?_
          exact ih33 M0 a0 none hJ0 (by omega) (by omega) (by omega)
  · skip
    refine w_ile_t dX9_beside_1 (t := 33) rfl (by omega) ?_
    exact ih33 M0 a0 none hJ0 (by omega) (by omega) (by omega)
set_option maxRecDepth 100000 in
theorem k_2366 {X : List Int32} {d N : Nat} {M0 : zM} (a0 : Int32) (ha00 : (0 : Int) ≤ a0.toInt) (ha01 : a0.toInt ≤ 11) (a1 : Int32) (ha10 : (1 : Int) ≤ a1.toInt) (ha11 : a1.toInt ≤ 2147483647) (hN : N ≤ 600) (hB0 : zB N M0) : ZV X (d + 3) 2366 [.ref 386, .int a0, .int a1] M0 (zRV N [(417, 418, 1000)] M0 (fun _ => True)) := by
  have hJ0 : zJ N [(417, 418, 1000)] M0 M0 := zJ_refl hB0
  refine ZV.of (ini := false) rfl (Nat.le_of_ble_eq_true rfl) (by decide +kernel) ?_
  have main : ∀ n : Nat,
      (∀ (M : zM) (v86_1 : Int32) (u86_2 : Int32) (v86_3 : Int32) (s86_2 : Int32), zJ N [(417, 418, 1000)] M0 M → ((0 : Int) ≤ v86_1.toInt) → (v86_1.toInt ≤ 11) → ((0 : Int) ≤ v86_3.toInt) → (v86_3.toInt ≤ 11) → ((-2147483648 : Int) ≤ s86_2.toInt) → (s86_2.toInt ≤ 2147483647) → 1 < (n : Int) → ZW X (d + 2) 9 false none cX9_meets (zRV N [(417, 418, 1000)] M0 (fun _ => True)) (86, [some (.ref 386), some (.int v86_1), some (.int u86_2), some (.int v86_3)], [.int s86_2, .int 5, .ref 417], M)) := by
    intro n
    induction n with
    | zero =>
      exact (fun M v86_1 u86_2 v86_3 s86_2 hJ v86_10 v86_11 v86_30 v86_31 s86_20 s86_21 hn => absurd hn (by omega))
    | succ n ih =>
      have ih86 := ih
      · intro M v86_1 u86_2 v86_3 s86_2 hJ v86_10 v86_11 v86_30 v86_31 s86_20 s86_21 hn
        refine w_isi dX9_meets_86 hJ zs_417 (by have := zt_5; omega) (by have := zt_5; omega) zu_417 (zbot _) (ztop _) (zIR_a (by omega) (by omega)) ?_
        intro M1 hJ2 f3 hn4
        refine w_lo dX9_meets_87 rfl rfl rfl rfl ?_
        refine w_gf dX9_meets_88 rfl hJ2.1.1 zs_386 (zr_386_48 hJ2.1) ?_
        refine w_bi dX9_meets_91 (c := 6) (by decide) ?_
        refine w_lo dX9_meets_93 rfl rfl rfl rfl ?_
        refine w_lo dX9_meets_94 rfl rfl rfl rfl ?_
        refine w_iv dX9_meets_95 rfl rfl (As := [.int v86_1]) rfl rfl hJ2.1.1 zs_386 (Nat.le_of_ble_eq_true rfl) ?_
        refine ZV.imp (k_2367 v86_1 (by omega) (by omega) hN hJ2.1) ?_
        rintro _ ⟨x8, M5, rfl, h9, h10, hJ6, hq7⟩
        have hJ11 := zJ_trans hJ2 hJ6 zSub_nil
        show ZW _ _ _ _ _ _ _ (98, [some (.ref 386), some (.int v86_1), some (.int u86_2), some (.int v86_3)], [.int x8, .int 6, .ref 417], M5)
        refine w_isi dX9_meets_98 hJ11 zs_417 (by have := zt_6; omega) (by have := zt_6; omega) zu_417 (zbot _) (ztop _) (zIR_a (by omega) (by omega)) ?_
        intro M12 hJ13 f14 hn15
        refine w_lo dX9_meets_99 rfl rfl rfl rfl ?_
        refine w_gf dX9_meets_100 rfl hJ13.1.1 zs_386 (zr_386_48 hJ13.1) ?_
        refine w_bi dX9_meets_103 (c := 7) (by decide) ?_
        refine w_lo dX9_meets_105 rfl rfl rfl rfl ?_
        refine w_gfi dX9_meets_106 rfl hJ13.1 zs_386 (Nat.le_of_ble_eq_true rfl) zo_386_71 ?_
        intro x16 f17 h18 h19
        rcases Int.decEq x16.toInt (0 : Int) with h20 | h20
        · skip
          refine w_ieq_f dX9_meets_109 (t := 116) rfl (by omega) ?_
          refine w_ic dX9_meets_112 zi_0 ?_
          refine w_gt dX9_meets_113 (t := 130) rfl ?_
          refine w_isi dX9_meets_130 hJ13 zs_417 (by have := zt_7; omega) (by have := zt_7; omega) zu_417 (zbot _) (ztop _) (zIR_a (by omega) (by omega)) ?_
          intro M21 hJ22 f23 hn24
          refine w_en dX9_meets_131 rfl ?_
          exact ⟨_, rfl, hJ22, trivial⟩
        · skip
          refine w_ieq_t dX9_meets_109 (t := 116) rfl (by omega) ?_
          refine w_lo dX9_meets_116 rfl rfl rfl rfl ?_
          refine w_gf dX9_meets_117 rfl hJ13.1.1 zs_386 (zr_386_57 hJ13.1) ?_
          refine w_bi dX9_meets_120 (c := 12) (by decide) ?_
          refine w_lo dX9_meets_122 rfl rfl rfl rfl ?_
          refine w_gfi dX9_meets_123 rfl hJ13.1 zs_386 (Nat.le_of_ble_eq_true rfl) zo_386_72 ?_
          intro x25 f26 h27 h28
          refine w_mulc dX9_meets_126 zt_12 (by have := zt_12; omega) ?_
          intro x29 h30
          have := zt_12
          refine w_lo dX9_meets_127 rfl rfl rfl rfl ?_
          refine w_add dX9_meets_128 (by omega) ?_
          intro x31 h32
          refine w_iai dX9_meets_129 hJ13.1 zs_426 (by omega) (by omega) zu_426 ?_
          intro x36 f33 h34 h35
          refine w_isi dX9_meets_130 hJ13 zs_417 (by have := zt_7; omega) (by have := zt_7; omega) zu_417 (zbot _) (ztop _) (zIR_a (by omega) (by omega)) ?_
          intro M37 hJ38 f39 hn40
          refine w_en dX9_meets_131 rfl ?_
          exact ⟨_, rfl, hJ38, trivial⟩
  have ih86 := main 6
  show ZW _ _ _ _ _ _ _ (0, [some (.ref 386), some (.int a0), some (.int a1), none], [], M0)
  refine w_lo dX9_meets_0 rfl rfl rfl rfl ?_
  refine w_gf dX9_meets_1 rfl hJ0.1.1 zs_386 (zr_386_69 hJ0.1) ?_
  refine w_lo dX9_meets_4 rfl rfl rfl rfl ?_
  refine w_iai dX9_meets_5 hJ0.1 zs_434 (by omega) (by omega) zu_434 ?_
  intro x44 f41 h42 h43
  refine w_lo (ml' := [some (.ref 386), some (.int a0), some (.int a1), some (.int x44)]) dX9_meets_6 rfl rfl rfl rfl ?_
  refine w_lo dX9_meets_7 rfl rfl rfl rfl ?_
  refine w_gf dX9_meets_8 rfl hJ0.1.1 zs_386 (zr_386_48 hJ0.1) ?_
  refine w_ic dX9_meets_11 zi_1 ?_
  refine w_lo dX9_meets_12 rfl rfl rfl rfl ?_
  refine w_isi dX9_meets_13 hJ0 zs_417 (by have := zt_1; omega) (by have := zt_1; omega) zu_417 (zbot _) (ztop _) (zIR_a (by omega) (by omega)) ?_
  intro M45 hJ46 f47 hn48
  refine w_lo dX9_meets_14 rfl rfl rfl rfl ?_
  refine w_gf dX9_meets_15 rfl hJ46.1.1 zs_386 (zr_386_48 hJ46.1) ?_
  refine w_ic dX9_meets_18 zi_2 ?_
  refine w_lo dX9_meets_19 rfl rfl rfl rfl ?_
  refine w_gf dX9_meets_20 rfl hJ46.1.1 zs_386 (zr_386_15 hJ46.1) ?_
  refine w_bi dX9_meets_23 (c := 12) (by decide) ?_
  refine w_lo dX9_meets_25 rfl rfl rfl rfl ?_
  refine w_gfi dX9_meets_26 rfl hJ46.1 zs_386 (Nat.le_of_ble_eq_true rfl) zo_386_12 ?_
  intro x49 f50 h51 h52
  refine w_mulc dX9_meets_29 zt_12 (by have := zt_12; omega) ?_
  intro x53 h54
  have := zt_12
  refine w_lo dX9_meets_30 rfl rfl rfl rfl ?_
  refine w_add dX9_meets_31 (by omega) ?_
  intro x55 h56
  refine w_iai dX9_meets_32 hJ46.1 zs_390 (by omega) (by omega) zu_390 ?_
  intro x60 f57 h58 h59
  refine w_isi dX9_meets_33 hJ46 zs_417 (by have := zt_2; omega) (by have := zt_2; omega) zu_417 (zbot _) (ztop _) (zIR_a (by omega) (by omega)) ?_
  intro M61 hJ62 f63 hn64
  refine w_lo dX9_meets_34 rfl rfl rfl rfl ?_
  refine w_gf dX9_meets_35 rfl hJ62.1.1 zs_386 (zr_386_48 hJ62.1) ?_
  refine w_ic dX9_meets_38 zi_3 ?_
  refine w_lo dX9_meets_39 rfl rfl rfl rfl ?_
  refine w_gf dX9_meets_40 rfl hJ62.1.1 zs_386 (zr_386_16 hJ62.1) ?_
  refine w_bi dX9_meets_43 (c := 12) (by decide) ?_
  refine w_lo dX9_meets_45 rfl rfl rfl rfl ?_
  have f65 := (hn64 (386) 12 (Or.inl (by omega))).trans (f50)
  refine w_gf dX9_meets_46 rfl hJ62.1.1 zs_386 f65 ?_
  refine w_mulc dX9_meets_49 zt_12 (by have := zt_12; omega) ?_
  intro x66 h67
  have := zt_12
  refine w_lo dX9_meets_50 rfl rfl rfl rfl ?_
  refine w_add dX9_meets_51 (by omega) ?_
  intro x68 h69
  refine w_iai dX9_meets_52 hJ62.1 zs_391 (by omega) (by omega) zu_391 ?_
  intro x73 f70 h71 h72
  refine w_isi dX9_meets_53 hJ62 zs_417 (by have := zt_3; omega) (by have := zt_3; omega) zu_417 (zbot _) (ztop _) (zIR_a (by omega) (by omega)) ?_
  intro M74 hJ75 f76 hn77
  refine w_lo dX9_meets_54 rfl rfl rfl rfl ?_
  refine w_gf dX9_meets_55 rfl hJ75.1.1 zs_386 (zr_386_48 hJ75.1) ?_
  refine w_ic dX9_meets_58 zi_4 ?_
  refine w_lo dX9_meets_59 rfl rfl rfl rfl ?_
  refine w_isi dX9_meets_60 hJ75 zs_417 (by have := zt_4; omega) (by have := zt_4; omega) zu_417 (zbot _) (ztop _) (zIR_a (by omega) (by omega)) ?_
  intro M78 hJ79 f80 hn81
  refine w_lo dX9_meets_61 rfl rfl rfl rfl ?_
  refine w_gf dX9_meets_62 rfl hJ79.1.1 zs_386 (zr_386_48 hJ79.1) ?_
  refine w_ic dX9_meets_65 zi_5 ?_
  refine w_lo dX9_meets_66 rfl rfl rfl rfl ?_
  refine w_gfi dX9_meets_67 rfl hJ79.1 zs_386 (Nat.le_of_ble_eq_true rfl) zo_386_71 ?_
  intro x82 f83 h84 h85
  rcases Int.decEq x82.toInt (0 : Int) with h86 | h86
  · skip
    refine w_ieq_f dX9_meets_70 (t := 77) rfl (by omega) ?_
    refine w_ic dX9_meets_73 zi_0 ?_
    refine w_gt dX9_meets_74 (t := 86) rfl ?_
    exact ih86 M78 a0 a1 x44 0 hJ79 (by omega) (by omega) (by omega) (by omega) (zbot _) (ztop _) (by have := zt_5; have := zt_0; omega)
  · skip
    refine w_ieq_t dX9_meets_70 (t := 77) rfl (by omega) ?_
    refine w_lo dX9_meets_77 rfl rfl rfl rfl ?_
    refine w_gf dX9_meets_78 rfl hJ79.1.1 zs_386 (zr_386_49 hJ79.1) ?_
    refine w_lo dX9_meets_81 rfl rfl rfl rfl ?_
    refine w_gfi dX9_meets_82 rfl hJ79.1 zs_386 (Nat.le_of_ble_eq_true rfl) zo_386_72 ?_
    intro x87 f88 h89 h90
    refine w_iai dX9_meets_85 hJ79.1 zs_418 (by omega) (by omega) zu_418 ?_
    intro x94 f91 h92 h93
    exact ih86 M78 a0 a1 x44 x94 hJ79 (by omega) (by omega) (by omega) (by omega) (zbot _) (ztop _) (by have := zt_5; omega)
set_option maxRecDepth 100000 in
theorem k_2373 {X : List Int32} {d N : Nat} {M0 : zM} (a0 : Int64) (hN : N ≤ 600) (hB0 : zB N M0) : ZV X (d + 1) 2373 [.long a0] M0 (zRG N [] M0 (fun _ _ => True)) := by
  have hJ0 : zJ N [] M0 M0 := zJ_refl hB0
  refine ZV.of (ini := false) rfl (Nat.le_of_ble_eq_true rfl) (by decide +kernel) ?_
  show ZW _ _ _ _ _ _ _ (0, [some (.long a0), none], [], M0)
  refine w_lo dX9_bounded_0 rfl rfl rfl rfl ?_
  refine w_me (st' := [.long (1000000 : Int64), .long a0]) dX9_bounded_1 rfl rfl rfl rfl rfl ?_
  refine w_lcm dX9_bounded_4 ?_
  intro x1 h2
  have := ztl_1000000
  rcases zcut (0 : Int) x1.toInt with h3 | h3
  · skip
    refine w_ile_f dX9_bounded_5 (t := 14) rfl (by omega) ?_
    refine w_me (st' := [.long (1000000 : Int64)]) dX9_bounded_8 rfl rfl rfl rfl rfl ?_
    refine w_gt dX9_bounded_11 (t := 29) rfl ?_
    refine w_en dX9_bounded_29 rfl ?_
    exact ⟨_, _, rfl, hJ0, trivial⟩
  · skip
    refine w_ile_t dX9_bounded_5 (t := 14) rfl (by omega) ?_
    refine w_lo dX9_bounded_14 rfl rfl rfl rfl ?_
    refine w_me (st' := [.long (-1000000 : Int64), .long a0]) dX9_bounded_15 rfl rfl rfl rfl rfl ?_
    refine w_lcm dX9_bounded_18 ?_
    intro x4 h5
    have := ztl_m1000000
    rcases zcut x4.toInt (0 : Int) with h6 | h6
    · skip
      refine w_ige_f dX9_bounded_19 (t := 28) rfl (by omega) ?_
      refine w_me (st' := [.long (-1000000 : Int64)]) dX9_bounded_22 rfl rfl rfl rfl rfl ?_
      refine w_gt dX9_bounded_25 (t := 29) rfl ?_
      refine w_en dX9_bounded_29 rfl ?_
      exact ⟨_, _, rfl, hJ0, trivial⟩
    · skip
      refine w_ige_t dX9_bounded_19 (t := 28) rfl (by omega) ?_
      refine w_lo dX9_bounded_28 rfl rfl rfl rfl ?_
      refine w_en dX9_bounded_29 rfl ?_
      exact ⟨_, _, rfl, hJ0, trivial⟩
set_option maxRecDepth 100000 in
theorem k_2374 {X : List Int32} {d N : Nat} {M0 : zM} (a0 : Int64) (a1 : Int64) (hN : N ≤ 600) (hB0 : zB N M0) : ZV X (d + 1) 2374 [.long a0, .long a1] M0 (zRG N [] M0 (fun _ _ => True)) := by
  have hJ0 : zJ N [] M0 M0 := zJ_refl hB0
  refine ZV.of (ini := false) rfl (Nat.le_of_ble_eq_true rfl) (by decide +kernel) ?_
  show ZW _ _ _ _ _ _ _ (0, [some (.long a0), none, some (.long a1), none, none, none], [], M0)
  refine w_lo dX9_over_0 rfl rfl rfl rfl ?_
  refine w_lc dX9_over_1 (c := (0 : Int64)) (by decide) ?_
  refine w_lcm dX9_over_2 ?_
  intro x1 h2
  have := ztl_0
  rcases Int.decEq x1.toInt (0 : Int) with h3 | h3
  · skip
    refine w_ine_t dX9_over_3 (t := 8) rfl (by omega) ?_
    refine w_lo dX9_over_8 rfl rfl rfl rfl ?_
    refine w_lo dX9_over_9 rfl rfl rfl rfl ?_
    refine w_ldivT dX9_over_10 (by omega) ?_
    intro y4
    refine w_lo (ml' := [some (.long a0), none, some (.long a1), none, some (.long y4), none]) dX9_over_11 rfl rfl rfl rfl ?_
    refine w_lo dX9_over_13 rfl rfl rfl rfl ?_
    refine w_lo dX9_over_14 rfl rfl rfl rfl ?_
    refine w_lremT dX9_over_15 (by omega) ?_
    intro y5
    refine w_lc dX9_over_16 (c := (0 : Int64)) (by decide) ?_
    refine w_lcm dX9_over_17 ?_
    intro x6 h7
    have := ztl_0
    rcases Int.decEq x6.toInt (0 : Int) with h8 | h8
    · skip
      refine w_ieq_f dX9_over_18 (t := 53) rfl (by omega) ?_
      refine w_lo dX9_over_21 rfl rfl rfl rfl ?_
      refine w_lc dX9_over_22 (c := (0 : Int64)) (by decide) ?_
      refine w_lcm dX9_over_23 ?_
      intro x9 h10
      have := ztl_0
      rcases zcut x9.toInt (0 : Int) with h11 | h11
      · skip
        refine w_ige_f dX9_over_24 (t := 31) rfl (by omega) ?_
        refine w_ic dX9_over_27 zi_1 ?_
        refine w_gt dX9_over_28 (t := 32) rfl ?_
        refine w_lo dX9_over_32 rfl rfl rfl rfl ?_
        refine w_lc dX9_over_33 (c := (0 : Int64)) (by decide) ?_
        refine w_lcm dX9_over_34 ?_
        intro x12 h13
        have := ztl_0
        rcases zcut x12.toInt (0 : Int) with h14 | h14
        · skip
          refine w_ige_f dX9_over_35 (t := 42) rfl (by omega) ?_
          refine w_ic dX9_over_38 zi_1 ?_
          refine w_gt dX9_over_39 (t := 43) rfl ?_
          refine w_ceq_t dX9_over_43 (t := 53) rfl (by have := zt_1; have := zt_1; omega) ?_
          refine w_lo dX9_over_53 rfl rfl rfl rfl ?_
          refine w_en dX9_over_55 rfl ?_
          exact ⟨_, _, rfl, hJ0, trivial⟩
        · skip
          refine w_ige_t dX9_over_35 (t := 42) rfl (by omega) ?_
          refine w_ic dX9_over_42 zi_0 ?_
          refine w_ceq_f dX9_over_43 (t := 53) rfl (by have := zt_1; have := zt_0; omega) ?_
          refine w_lo dX9_over_46 rfl rfl rfl rfl ?_
          refine w_lc dX9_over_48 (c := (1 : Int64)) (by decide) ?_
          refine w_puL dX9_over_49 rfl rfl ?_
          intro y15
          refine w_gt dX9_over_50 (t := 55) rfl ?_
          refine w_en dX9_over_55 rfl ?_
          exact ⟨_, _, rfl, hJ0, trivial⟩
      · skip
        refine w_ige_t dX9_over_24 (t := 31) rfl (by omega) ?_
        refine w_ic dX9_over_31 zi_0 ?_
        refine w_lo dX9_over_32 rfl rfl rfl rfl ?_
        refine w_lc dX9_over_33 (c := (0 : Int64)) (by decide) ?_
        refine w_lcm dX9_over_34 ?_
        intro x16 h17
        have := ztl_0
        rcases zcut x16.toInt (0 : Int) with h18 | h18
        · skip
          refine w_ige_f dX9_over_35 (t := 42) rfl (by omega) ?_
          refine w_ic dX9_over_38 zi_1 ?_
          refine w_gt dX9_over_39 (t := 43) rfl ?_
          refine w_ceq_f dX9_over_43 (t := 53) rfl (by have := zt_0; have := zt_1; omega) ?_
          refine w_lo dX9_over_46 rfl rfl rfl rfl ?_
          refine w_lc dX9_over_48 (c := (1 : Int64)) (by decide) ?_
          refine w_puL dX9_over_49 rfl rfl ?_
          intro y19
          refine w_gt dX9_over_50 (t := 55) rfl ?_
          refine w_en dX9_over_55 rfl ?_
          exact ⟨_, _, rfl, hJ0, trivial⟩
        · skip
          refine w_ige_t dX9_over_35 (t := 42) rfl (by omega) ?_
          refine w_ic dX9_over_42 zi_0 ?_
          refine w_ceq_t dX9_over_43 (t := 53) rfl (by have := zt_0; have := zt_0; omega) ?_
          refine w_lo dX9_over_53 rfl rfl rfl rfl ?_
          refine w_en dX9_over_55 rfl ?_
          exact ⟨_, _, rfl, hJ0, trivial⟩
    · skip
      refine w_ieq_t dX9_over_18 (t := 53) rfl (by omega) ?_
      refine w_lo dX9_over_53 rfl rfl rfl rfl ?_
      refine w_en dX9_over_55 rfl ?_
      exact ⟨_, _, rfl, hJ0, trivial⟩
  · skip
    refine w_ine_f dX9_over_3 (t := 8) rfl (by omega) ?_
    refine w_lc dX9_over_6 (c := (0 : Int64)) (by decide) ?_
    refine w_en dX9_over_7 rfl ?_
    exact ⟨_, _, rfl, hJ0, trivial⟩
set_option maxRecDepth 100000 in
theorem k_2372 {X : List Int32} {d N : Nat} {M0 : zM} (a0 : Int32) (ha00 : (10 : Int) ≤ a0.toInt) (ha01 : a0.toInt ≤ 21) (a1 : Int64) (a2 : Int64) (hN : N ≤ 600) (hB0 : zB N M0) : ZV X (d + 2) 2372 [.int a0, .long a1, .long a2] M0 (zRG N [] M0 (fun _ _ => True)) := by
  have hJ0 : zJ N [] M0 M0 := zJ_refl hB0
  refine ZV.of (ini := false) rfl (Nat.le_of_ble_eq_true rfl) (by decide +kernel) ?_
  show ZW _ _ _ _ _ _ _ (0, [some (.int a0), some (.long a1), none, some (.long a2), none], [], M0)
  refine w_lo dX9_made_0 rfl rfl rfl rfl ?_
  rcases Int.decEq a0.toInt (10 : Int) with h1 | h1
  rotate_left
  · skip
    refine w_ts dX9_made_1 (t := 60) (j := 10) h1 (by decide) ?_
    refine w_lo dX9_made_60 rfl rfl rfl rfl ?_
    refine w_lo dX9_made_61 rfl rfl rfl rfl ?_
    refine w_puL dX9_made_62 rfl rfl ?_
    intro y2
    refine w_ss dX9_made_63 rfl rfl (As := [.long y2]) rfl rfl (Nat.le_of_ble_eq_true rfl) ?_
    refine ZV.imp (k_2373 y2 hN hJ0.1) ?_
    rintro _ ⟨y6, M3, rfl, hJ4, hq5⟩
    have hJ7 := zJ_trans hJ0 hJ4 zSub_nil
    show ZW _ _ _ _ _ _ _ (66, [some (.int a0), some (.long a1), none, some (.long a2), none], [.long y6], M3)
    refine w_en dX9_made_66 rfl ?_
    exact ⟨_, _, rfl, hJ7, trivial⟩
  rcases Int.decEq a0.toInt (11 : Int) with h8 | h8
  rotate_left
  · skip
    refine w_ts dX9_made_1 (t := 67) (j := 11) h8 (by decide) ?_
    refine w_lo dX9_made_67 rfl rfl rfl rfl ?_
    refine w_lo dX9_made_68 rfl rfl rfl rfl ?_
    refine w_puL dX9_made_69 rfl rfl ?_
    intro y9
    refine w_ss dX9_made_70 rfl rfl (As := [.long y9]) rfl rfl (Nat.le_of_ble_eq_true rfl) ?_
    refine ZV.imp (k_2373 y9 hN hJ0.1) ?_
    rintro _ ⟨y13, M10, rfl, hJ11, hq12⟩
    have hJ14 := zJ_trans hJ0 hJ11 zSub_nil
    show ZW _ _ _ _ _ _ _ (73, [some (.int a0), some (.long a1), none, some (.long a2), none], [.long y13], M10)
    refine w_en dX9_made_73 rfl ?_
    exact ⟨_, _, rfl, hJ14, trivial⟩
  rcases Int.decEq a0.toInt (12 : Int) with h15 | h15
  rotate_left
  · skip
    refine w_ts dX9_made_1 (t := 74) (j := 12) h15 (by decide) ?_
    refine w_lo dX9_made_74 rfl rfl rfl rfl ?_
    refine w_lo dX9_made_75 rfl rfl rfl rfl ?_
    refine w_puL dX9_made_76 rfl rfl ?_
    intro y16
    refine w_ss dX9_made_77 rfl rfl (As := [.long y16]) rfl rfl (Nat.le_of_ble_eq_true rfl) ?_
    refine ZV.imp (k_2373 y16 hN hJ0.1) ?_
    rintro _ ⟨y20, M17, rfl, hJ18, hq19⟩
    have hJ21 := zJ_trans hJ0 hJ18 zSub_nil
    show ZW _ _ _ _ _ _ _ (80, [some (.int a0), some (.long a1), none, some (.long a2), none], [.long y20], M17)
    refine w_en dX9_made_80 rfl ?_
    exact ⟨_, _, rfl, hJ21, trivial⟩
  rcases Int.decEq a0.toInt (13 : Int) with h22 | h22
  rotate_left
  · skip
    refine w_ts dX9_made_1 (t := 81) (j := 13) h22 (by decide) ?_
    refine w_lo dX9_made_81 rfl rfl rfl rfl ?_
    refine w_lo dX9_made_82 rfl rfl rfl rfl ?_
    refine w_ss dX9_made_83 rfl rfl (As := [.long a1, .long a2]) rfl rfl (Nat.le_of_ble_eq_true rfl) ?_
    refine ZV.imp (k_2374 a1 a2 hN hJ0.1) ?_
    rintro _ ⟨y26, M23, rfl, hJ24, hq25⟩
    have hJ27 := zJ_trans hJ0 hJ24 zSub_nil
    show ZW _ _ _ _ _ _ _ (86, [some (.int a0), some (.long a1), none, some (.long a2), none], [.long y26], M23)
    refine w_en dX9_made_86 rfl ?_
    exact ⟨_, _, rfl, hJ27, trivial⟩
  rcases Int.decEq a0.toInt (14 : Int) with h28 | h28
  rotate_left
  · skip
    refine w_ts dX9_made_1 (t := 87) (j := 14) h28 (by decide) ?_
    refine w_lo dX9_made_87 rfl rfl rfl rfl ?_
    refine w_lc dX9_made_88 (c := (0 : Int64)) (by decide) ?_
    refine w_lcm dX9_made_89 ?_
    intro x29 h30
    have := ztl_0
    rcases Int.decEq x29.toInt (0 : Int) with h31 | h31
    · skip
      refine w_ine_t dX9_made_90 (t := 97) rfl (by omega) ?_
      refine w_lo dX9_made_97 rfl rfl rfl rfl ?_
      refine w_lo dX9_made_98 rfl rfl rfl rfl ?_
      refine w_lo dX9_made_99 rfl rfl rfl rfl ?_
      refine w_lo dX9_made_100 rfl rfl rfl rfl ?_
      refine w_ss dX9_made_101 rfl rfl (As := [.long a1, .long a2]) rfl rfl (Nat.le_of_ble_eq_true rfl) ?_
      refine ZV.imp (k_2374 a1 a2 hN hJ0.1) ?_
      rintro _ ⟨y35, M32, rfl, hJ33, hq34⟩
      have hJ36 := zJ_trans hJ0 hJ33 zSub_nil
      show ZW _ _ _ _ _ _ _ (104, [some (.int a0), some (.long a1), none, some (.long a2), none], [.long y35, .long a2, .long a1], M32)
      refine w_puL dX9_made_104 rfl rfl ?_
      intro y37
      refine w_puL dX9_made_105 rfl rfl ?_
      intro y38
      refine w_en dX9_made_106 rfl ?_
      exact ⟨_, _, rfl, hJ36, trivial⟩
    · skip
      refine w_ine_f dX9_made_90 (t := 97) rfl (by omega) ?_
      refine w_lc dX9_made_93 (c := (0 : Int64)) (by decide) ?_
      refine w_gt dX9_made_94 (t := 106) rfl ?_
      refine w_en dX9_made_106 rfl ?_
      exact ⟨_, _, rfl, hJ0, trivial⟩
  rcases Int.decEq a0.toInt (15 : Int) with h39 | h39
  rotate_left
  · skip
    refine w_ts dX9_made_1 (t := 107) (j := 15) h39 (by decide) ?_
    refine w_lo dX9_made_107 rfl rfl rfl rfl ?_
    refine w_lo dX9_made_108 rfl rfl rfl rfl ?_
    refine w_lcm dX9_made_109 ?_
    intro x40 h41
    skip
    rcases zcut x40.toInt (0 : Int) with h42 | h42
    · skip
      refine w_ige_f dX9_made_110 (t := 117) rfl (by omega) ?_
      refine w_lo dX9_made_113 rfl rfl rfl rfl ?_
      refine w_gt dX9_made_114 (t := 118) rfl ?_
      refine w_en dX9_made_118 rfl ?_
      exact ⟨_, _, rfl, hJ0, trivial⟩
    · skip
      refine w_ige_t dX9_made_110 (t := 117) rfl (by omega) ?_
      refine w_lo dX9_made_117 rfl rfl rfl rfl ?_
      refine w_en dX9_made_118 rfl ?_
      exact ⟨_, _, rfl, hJ0, trivial⟩
  rcases Int.decEq a0.toInt (16 : Int) with h43 | h43
  rotate_left
  · skip
    refine w_ts dX9_made_1 (t := 119) (j := 16) h43 (by decide) ?_
    refine w_lo dX9_made_119 rfl rfl rfl rfl ?_
    refine w_lo dX9_made_120 rfl rfl rfl rfl ?_
    refine w_lcm dX9_made_121 ?_
    intro x44 h45
    skip
    rcases zcut (0 : Int) x44.toInt with h46 | h46
    · skip
      refine w_ile_f dX9_made_122 (t := 129) rfl (by omega) ?_
      refine w_lo dX9_made_125 rfl rfl rfl rfl ?_
      refine w_gt dX9_made_126 (t := 130) rfl ?_
      refine w_en dX9_made_130 rfl ?_
      exact ⟨_, _, rfl, hJ0, trivial⟩
    · skip
      refine w_ile_t dX9_made_122 (t := 129) rfl (by omega) ?_
      refine w_lo dX9_made_129 rfl rfl rfl rfl ?_
      refine w_en dX9_made_130 rfl ?_
      exact ⟨_, _, rfl, hJ0, trivial⟩
  rcases Int.decEq a0.toInt (17 : Int) with h47 | h47
  rotate_left
  · skip
    refine w_ts dX9_made_1 (t := 131) (j := 17) h47 (by decide) ?_
    refine w_lo dX9_made_131 rfl rfl rfl rfl ?_
    refine w_lo dX9_made_132 rfl rfl rfl rfl ?_
    refine w_lcm dX9_made_133 ?_
    intro x48 h49
    skip
    rcases zcut x48.toInt (0 : Int) with h50 | h50
    · skip
      refine w_ige_f dX9_made_134 (t := 141) rfl (by omega) ?_
      refine w_lc dX9_made_137 (c := (1 : Int64)) (by decide) ?_
      refine w_gt dX9_made_138 (t := 142) rfl ?_
      refine w_en dX9_made_142 rfl ?_
      exact ⟨_, _, rfl, hJ0, trivial⟩
    · skip
      refine w_ige_t dX9_made_134 (t := 141) rfl (by omega) ?_
      refine w_lc dX9_made_141 (c := (0 : Int64)) (by decide) ?_
      refine w_en dX9_made_142 rfl ?_
      exact ⟨_, _, rfl, hJ0, trivial⟩
  rcases Int.decEq a0.toInt (18 : Int) with h51 | h51
  rotate_left
  · skip
    refine w_ts dX9_made_1 (t := 143) (j := 18) h51 (by decide) ?_
    refine w_lo dX9_made_143 rfl rfl rfl rfl ?_
    refine w_lo dX9_made_144 rfl rfl rfl rfl ?_
    refine w_lcm dX9_made_145 ?_
    intro x52 h53
    skip
    rcases zcut (0 : Int) x52.toInt with h54 | h54
    · skip
      refine w_ile_f dX9_made_146 (t := 153) rfl (by omega) ?_
      refine w_lc dX9_made_149 (c := (1 : Int64)) (by decide) ?_
      refine w_gt dX9_made_150 (t := 154) rfl ?_
      refine w_en dX9_made_154 rfl ?_
      exact ⟨_, _, rfl, hJ0, trivial⟩
    · skip
      refine w_ile_t dX9_made_146 (t := 153) rfl (by omega) ?_
      refine w_lc dX9_made_153 (c := (0 : Int64)) (by decide) ?_
      refine w_en dX9_made_154 rfl ?_
      exact ⟨_, _, rfl, hJ0, trivial⟩
  rcases Int.decEq a0.toInt (19 : Int) with h55 | h55
  rotate_left
  · skip
    refine w_ts dX9_made_1 (t := 155) (j := 19) h55 (by decide) ?_
    refine w_lo dX9_made_155 rfl rfl rfl rfl ?_
    refine w_lo dX9_made_156 rfl rfl rfl rfl ?_
    refine w_lcm dX9_made_157 ?_
    intro x56 h57
    skip
    rcases Int.decEq x56.toInt (0 : Int) with h58 | h58
    · skip
      refine w_ine_t dX9_made_158 (t := 165) rfl (by omega) ?_
      refine w_lc dX9_made_165 (c := (0 : Int64)) (by decide) ?_
      refine w_en dX9_made_166 rfl ?_
      exact ⟨_, _, rfl, hJ0, trivial⟩
    · skip
      refine w_ine_f dX9_made_158 (t := 165) rfl (by omega) ?_
      refine w_lc dX9_made_161 (c := (1 : Int64)) (by decide) ?_
      refine w_gt dX9_made_162 (t := 166) rfl ?_
      refine w_en dX9_made_166 rfl ?_
      exact ⟨_, _, rfl, hJ0, trivial⟩
  rcases Int.decEq a0.toInt (20 : Int) with h59 | h59
  rotate_left
  · skip
    refine w_ts dX9_made_1 (t := 167) (j := 20) h59 (by decide) ?_
    refine w_lo dX9_made_167 rfl rfl rfl rfl ?_
    refine w_lo dX9_made_168 rfl rfl rfl rfl ?_
    refine w_puL dX9_made_169 rfl rfl ?_
    intro y60
    refine w_en dX9_made_170 rfl ?_
    exact ⟨_, _, rfl, hJ0, trivial⟩
  refine w_td dX9_made_1 (t := 171) (by omega) rfl ?_
  refine w_lo dX9_made_171 rfl rfl rfl rfl ?_
  refine w_lo dX9_made_172 rfl rfl rfl rfl ?_
  refine w_puL dX9_made_173 rfl rfl ?_
  intro y61
  refine w_lc dX9_made_174 (c := (0 : Int64)) (by decide) ?_
  refine w_lcm dX9_made_175 ?_
  intro x62 h63
  have := ztl_0
  rcases zcut (0 : Int) x62.toInt with h64 | h64
  · skip
    refine w_ile_f dX9_made_176 (t := 183) rfl (by omega) ?_
    refine w_lc dX9_made_179 (c := (1 : Int64)) (by decide) ?_
    refine w_gt dX9_made_180 (t := 184) rfl ?_
    refine w_en dX9_made_184 rfl ?_
    exact ⟨_, _, rfl, hJ0, trivial⟩
  · skip
    refine w_ile_t dX9_made_176 (t := 183) rfl (by omega) ?_
    refine w_lc dX9_made_183 (c := (0 : Int64)) (by decide) ?_
    refine w_en dX9_made_184 rfl ?_
    exact ⟨_, _, rfl, hJ0, trivial⟩
set_option maxRecDepth 100000 in
theorem k_2377 {X : List Int32} {d N : Nat} {M0 : zM}  (hN : N ≤ 600) (hB0 : zB N M0) : ZV X (d + 2) 2377 [.ref 386] M0 (zRV N [(418, 433, 1000), (386, 387, 64), (386, 387, 65)] M0 (fun _ => True)) := by
  have hJ0 : zJ N [(418, 433, 1000), (386, 387, 64), (386, 387, 65)] M0 M0 := zJ_refl hB0
  refine ZV.of (ini := false) rfl (Nat.le_of_ble_eq_true rfl) (by decide +kernel) ?_
  show ZW _ _ _ _ _ _ _ (0, [some (.ref 386)], [], M0)
  refine w_lo dX9_keeps_0 rfl rfl rfl rfl ?_
  refine w_gfi dX9_keeps_1 rfl hJ0.1 zs_386 (Nat.le_of_ble_eq_true rfl) zo_386_65 ?_
  intro x1 f2 h3 h4
  refine w_bi dX9_keeps_4 (c := 20) (by decide) ?_
  rcases Int.decEq x1.toInt (20 : Int) with h5 | h5
  · skip
    refine w_cne_t dX9_keeps_6 (t := 32) rfl (by have := zt_20; omega) ?_
    refine w_lo dX9_keeps_32 rfl rfl rfl rfl ?_
    refine w_lo dX9_keeps_33 rfl rfl rfl rfl ?_
    refine w_lo dX9_keeps_34 rfl rfl rfl rfl ?_
    refine w_gf dX9_keeps_35 rfl hJ0.1.1 zs_386 f2 ?_
    refine w_iv dX9_keeps_38 rfl rfl (As := [.int x1]) rfl rfl hJ0.1.1 zs_386 (Nat.le_of_ble_eq_true rfl) ?_
    refine ZV.of (ini := false) rfl (Nat.le_of_ble_eq_true rfl) (by decide +kernel) ?_
    show ZW _ _ _ _ _ _ _ (0, [some (.ref 386), some (.int x1)], [], M0)
    refine w_ic dX9_ring_0 zi_2 ?_
    refine w_lo dX9_ring_1 rfl rfl rfl rfl ?_
    refine w_gfi dX9_ring_2 rfl hJ0.1 zs_386 (Nat.le_of_ble_eq_true rfl) zo_386_64 ?_
    intro x6 f7 h8 h9
    refine w_lo dX9_ring_5 rfl rfl rfl rfl ?_
    refine w_add dX9_ring_6 (by omega) ?_
    intro x10 h11
    refine w_bi dX9_ring_7 (c := 20) (by decide) ?_
    refine w_remP dX9_ring_9 (by omega) (by have := zt_20; omega) ?_
    intro x12 h13 h14 h15
    have := zt_20
    refine w_add dX9_ring_10 (by have := zt_2; omega) ?_
    intro x16 h17
    have := zt_2
    refine w_eni dX9_ring_11 rfl rfl ?_
    show ZW _ _ _ _ _ _ _ (41, [some (.ref 386)], [.int x16, .ref 386], M0)
    refine w_ic dX9_keeps_41 zi_0 ?_
    refine w_iv dX9_keeps_42 rfl rfl (As := [.int x16, .int 0]) rfl rfl hJ0.1.1 zs_386 (Nat.le_of_ble_eq_true rfl) ?_
    refine ZV.imp (k_2347 x16 (by omega) (by omega) 0 (by have := zt_0; omega) (by have := zt_0; omega) hN hJ0.1) ?_
    rintro _ ⟨M18, rfl, hJ19, hq20⟩
    have hJ21 := zJ_trans hJ0 hJ19 (zSub_cons (fun _ _ h h' hk => zIR_a (by omega) (by omega)) zSub_nil)
    show ZW _ _ _ _ _ _ _ (45, [some (.ref 386)], [], M18)
    refine w_lo dX9_keeps_45 rfl rfl rfl rfl ?_
    refine w_pu dX9_keeps_46 rfl rfl ?_
    have f22 := (hJ19.2 (386) 65 (zNI (by omega) zNI_nil)).trans (f2)
    refine w_gf dX9_keeps_47 rfl hJ21.1.1 zs_386 f22 ?_
    refine w_ic dX9_keeps_50 zi_1 ?_
    refine w_add dX9_keeps_51 (by have := zt_1; omega) ?_
    intro x23 h24
    have := zt_1
    refine w_pfi dX9_keeps_52 rfl hJ21 zs_386 (Nat.le_of_ble_eq_true rfl) zo_386_65 (by omega) (by omega) (zIR_s (zIR_s (zIR_k (by omega) (by omega)))) rfl rfl rfl ?_
    intro M25 hJ26 f27 hn28
    refine w_en dX9_keeps_55 rfl ?_
    exact ⟨_, rfl, hJ26, trivial⟩
  · skip
    refine w_cne_f dX9_keeps_6 (t := 32) rfl (by have := zt_20; omega) ?_
    refine w_lo dX9_keeps_9 rfl rfl rfl rfl ?_
    refine w_lo dX9_keeps_10 rfl rfl rfl rfl ?_
    refine w_gfi dX9_keeps_11 rfl hJ0.1 zs_386 (Nat.le_of_ble_eq_true rfl) zo_386_64 ?_
    intro x29 f30 h31 h32
    refine w_ic dX9_keeps_14 zi_1 ?_
    refine w_add dX9_keeps_15 (by have := zt_1; omega) ?_
    intro x33 h34
    have := zt_1
    refine w_bi dX9_keeps_16 (c := 20) (by decide) ?_
    refine w_remP dX9_keeps_18 (by omega) (by have := zt_20; omega) ?_
    intro x35 h36 h37 h38
    have := zt_20
    refine w_pfi dX9_keeps_19 rfl hJ0 zs_386 (Nat.le_of_ble_eq_true rfl) zo_386_64 (by omega) (by omega) (zIR_s (zIR_k (by omega) (by omega))) rfl rfl rfl ?_
    intro M39 hJ40 f41 hn42
    refine w_lo dX9_keeps_22 rfl rfl rfl rfl ?_
    refine w_pu dX9_keeps_23 rfl rfl ?_
    have f43 := (hn42 (386) 65 (Or.inr (by decide))).trans (f2)
    refine w_gf dX9_keeps_24 rfl hJ40.1.1 zs_386 f43 ?_
    refine w_ic dX9_keeps_27 zi_1 ?_
    refine w_sub dX9_keeps_28 (by have := zt_1; omega) ?_
    intro x44 h45
    have := zt_1
    refine w_pfi dX9_keeps_29 rfl hJ40 zs_386 (Nat.le_of_ble_eq_true rfl) zo_386_65 (by omega) (by omega) (zIR_s (zIR_s (zIR_k (by omega) (by omega)))) rfl rfl rfl ?_
    intro M46 hJ47 f48 hn49
    refine w_lo dX9_keeps_32 rfl rfl rfl rfl ?_
    refine w_lo dX9_keeps_33 rfl rfl rfl rfl ?_
    refine w_lo dX9_keeps_34 rfl rfl rfl rfl ?_
    refine w_gf dX9_keeps_35 rfl hJ47.1.1 zs_386 f48 ?_
    refine w_iv dX9_keeps_38 rfl rfl (As := [.int x44]) rfl rfl hJ47.1.1 zs_386 (Nat.le_of_ble_eq_true rfl) ?_
    refine ZV.of (ini := false) rfl (Nat.le_of_ble_eq_true rfl) (by decide +kernel) ?_
    show ZW _ _ _ _ _ _ _ (0, [some (.ref 386), some (.int x44)], [], M46)
    refine w_ic dX9_ring_0 zi_2 ?_
    refine w_lo dX9_ring_1 rfl rfl rfl rfl ?_
    have f50 := (hn49 (386) 64 (Or.inr (by decide))).trans (f41)
    refine w_gf dX9_ring_2 rfl hJ47.1.1 zs_386 f50 ?_
    refine w_lo dX9_ring_5 rfl rfl rfl rfl ?_
    refine w_add dX9_ring_6 (by omega) ?_
    intro x51 h52
    refine w_bi dX9_ring_7 (c := 20) (by decide) ?_
    refine w_remP dX9_ring_9 (by omega) (by have := zt_20; omega) ?_
    intro x53 h54 h55 h56
    have := zt_20
    refine w_add dX9_ring_10 (by have := zt_2; omega) ?_
    intro x57 h58
    have := zt_2
    refine w_eni dX9_ring_11 rfl rfl ?_
    show ZW _ _ _ _ _ _ _ (41, [some (.ref 386)], [.int x57, .ref 386], M46)
    refine w_ic dX9_keeps_41 zi_0 ?_
    refine w_iv dX9_keeps_42 rfl rfl (As := [.int x57, .int 0]) rfl rfl hJ47.1.1 zs_386 (Nat.le_of_ble_eq_true rfl) ?_
    refine ZV.imp (k_2347 x57 (by omega) (by omega) 0 (by have := zt_0; omega) (by have := zt_0; omega) hN hJ47.1) ?_
    rintro _ ⟨M59, rfl, hJ60, hq61⟩
    have hJ62 := zJ_trans hJ47 hJ60 (zSub_cons (fun _ _ h h' hk => zIR_a (by omega) (by omega)) zSub_nil)
    show ZW _ _ _ _ _ _ _ (45, [some (.ref 386)], [], M59)
    refine w_lo dX9_keeps_45 rfl rfl rfl rfl ?_
    refine w_pu dX9_keeps_46 rfl rfl ?_
    have f63 := (hJ60.2 (386) 65 (zNI (by omega) zNI_nil)).trans (f48)
    refine w_gf dX9_keeps_47 rfl hJ62.1.1 zs_386 f63 ?_
    refine w_ic dX9_keeps_50 zi_1 ?_
    refine w_add dX9_keeps_51 (by have := zt_1; omega) ?_
    intro x64 h65
    have := zt_1
    refine w_pfi dX9_keeps_52 rfl hJ62 zs_386 (Nat.le_of_ble_eq_true rfl) zo_386_65 (by omega) (by omega) (zIR_s (zIR_s (zIR_k (by omega) (by omega)))) rfl rfl rfl ?_
    intro M66 hJ67 f68 hn69
    refine w_en dX9_keeps_55 rfl ?_
    exact ⟨_, rfl, hJ67, trivial⟩
set_option maxRecDepth 100000 in
theorem k_2381 {X : List Int32} {d N : Nat} {M0 : zM} (a0 : Int32) (ha00 : (0 : Int) ≤ a0.toInt) (ha01 : a0.toInt ≤ 1) (a1 : Int32) (ha10 : (0 : Int) ≤ a1.toInt) (ha11 : a1.toInt ≤ 11) (a2 : Int32) (ha20 : (0 : Int) ≤ a2.toInt) (ha21 : a2.toInt ≤ 5) (a3 : Int32) (a4 : Int32) (ha40 : (-1 : Int) ≤ a4.toInt) (ha41 : a4.toInt ≤ 11) (hN : N ≤ 600) (hB0 : zB N M0) : ZV X (d + 1) 2381 [.ref 386, .int a0, .int a1, .int a2, .int a3, .int a4] M0 (zRV N [(431, 433, 1000)] M0 (fun _ => True)) := by
  have hJ0 : zJ N [(431, 433, 1000)] M0 M0 := zJ_refl hB0
  refine ZV.of (ini := false) rfl (Nat.le_of_ble_eq_true rfl) (by decide +kernel) ?_
  have main : ∀ n : Nat,
      (∀ (M : zM) (v15_1 : Int32) (v15_2 : Int32) (v15_3 : Int32) (v15_4 : Int32) (v15_5 : Int32) (v15_6 : Int32) (m_15 : Int32), zJ N [(431, 433, 1000)] M0 M → ((0 : Int) ≤ v15_1.toInt) → (v15_1.toInt ≤ 1) → ((0 : Int) ≤ v15_2.toInt) → (v15_2.toInt ≤ 11) → ((0 : Int) ≤ v15_3.toInt) → (v15_3.toInt ≤ 5) → ((-2147483648 : Int) ≤ v15_4.toInt) → (v15_4.toInt ≤ 2147483647) → ((-1 : Int) ≤ v15_5.toInt) → (v15_5.toInt ≤ 11) → ((5 : Int) ≤ v15_6.toInt) → (v15_6.toInt ≤ 1000) → (zvl M (431) (v15_1 : Int32).toInt.toNat = some (.int m_15)) → (m_15.toInt = 200) → 4 * (1000 - v15_6.toInt) + 2 < (n : Int) → ZW X (d + 0) 9 false none cX9_tells (zRV N [(431, 433, 1000)] M0 (fun _ => True)) (15, [some (.ref 386), some (.int v15_1), some (.int v15_2), some (.int v15_3), some (.int v15_4), some (.int v15_5), some (.int v15_6)], [], M)) ∧
      (∀ (M : zM) (v67_1 : Int32) (v67_2 : Int32) (v67_3 : Int32) (v67_4 : Int32) (v67_5 : Int32) (o67_6 : Option Value) (m_67 : Int32), zJ N [(431, 433, 1000)] M0 M → ((0 : Int) ≤ v67_1.toInt) → (v67_1.toInt ≤ 1) → ((0 : Int) ≤ v67_2.toInt) → (v67_2.toInt ≤ 11) → ((0 : Int) ≤ v67_3.toInt) → (v67_3.toInt ≤ 5) → ((-2147483648 : Int) ≤ v67_4.toInt) → (v67_4.toInt ≤ 2147483647) → ((-1 : Int) ≤ v67_5.toInt) → (v67_5.toInt ≤ 11) → (zvl M (431) (v67_1 : Int32).toInt.toNat = some (.int m_67)) → (0 ≤ m_67.toInt) → (m_67.toInt ≤ 199) → 1 < (n : Int) → ZW X (d + 0) 9 false none cX9_tells (zRV N [(431, 433, 1000)] M0 (fun _ => True)) (67, [some (.ref 386), some (.int v67_1), some (.int v67_2), some (.int v67_3), some (.int v67_4), some (.int v67_5), o67_6], [], M)) := by
    intro n
    induction n with
    | zero =>
      exact ⟨(fun M v15_1 v15_2 v15_3 v15_4 v15_5 v15_6 m_15 hJ v15_10 v15_11 v15_20 v15_21 v15_30 v15_31 v15_40 v15_41 v15_50 v15_51 v15_60 v15_61 hfm_15 hrm_150 hn => absurd hn (by omega)), (fun M v67_1 v67_2 v67_3 v67_4 v67_5 o67_6 m_67 hJ v67_10 v67_11 v67_20 v67_21 v67_30 v67_31 v67_40 v67_41 v67_50 v67_51 hfm_67 hrm_670 hrm_671 hn => absurd hn (by omega))⟩
    | succ n ih =>
      obtain ⟨ih15, ih67⟩ := ih
      refine ⟨?_, ?_⟩
      · intro M v15_1 v15_2 v15_3 v15_4 v15_5 v15_6 m_15 hJ v15_10 v15_11 v15_20 v15_21 v15_30 v15_31 v15_40 v15_41 v15_50 v15_51 v15_60 v15_61 hfm_15 hrm_150 hn
        refine w_lo dX9_tells_15 rfl rfl rfl rfl ?_
        refine w_si dX9_tells_17 (c := 1000) (by decide) ?_
        rcases zcut v15_6.toInt (1000 : Int) with h1 | h1
        · skip
          refine w_cge_f dX9_tells_20 (t := 57) rfl (by have := zt_1000; omega) ?_
          refine w_lo dX9_tells_23 rfl rfl rfl rfl ?_
          refine w_gf dX9_tells_24 rfl hJ.1.1 zs_386 (zr_386_63 hJ.1) ?_
          refine w_si dX9_tells_27 (c := 1000) (by decide) ?_
          refine w_lo dX9_tells_30 rfl rfl rfl rfl ?_
          refine w_mulc dX9_tells_31 zt_1000 (by have := zt_1000; omega) ?_
          intro x2 h3
          have := zt_1000
          refine w_lo dX9_tells_32 rfl rfl rfl rfl ?_
          refine w_add dX9_tells_34 (by omega) ?_
          intro x4 h5
          refine w_ic dX9_tells_35 zi_5 ?_
          refine w_sub dX9_tells_36 (by have := zt_5; omega) ?_
          intro x6 h7
          have := zt_5
          refine w_lo dX9_tells_37 rfl rfl rfl rfl ?_
          refine w_gf dX9_tells_38 rfl hJ.1.1 zs_386 (zr_386_63 hJ.1) ?_
          refine w_si dX9_tells_41 (c := 1000) (by decide) ?_
          refine w_lo dX9_tells_44 rfl rfl rfl rfl ?_
          refine w_mulc dX9_tells_45 zt_1000 (by have := zt_1000; omega) ?_
          intro x8 h9
          have := zt_1000
          refine w_lo dX9_tells_46 rfl rfl rfl rfl ?_
          refine w_add dX9_tells_48 (by omega) ?_
          intro x10 h11
          refine w_iai dX9_tells_49 hJ.1 zs_432 (by omega) (by omega) zu_432 ?_
          intro x15 f12 h13 h14
          refine w_isi dX9_tells_50 hJ zs_432 (by omega) (by omega) zu_432 (zbot _) (ztop _) (zIR_a (by omega) (by omega)) ?_
          intro M16 hJ17 f18 hn19
          refine w_inc (kk := 6) dX9_tells_51 rfl (m := 1) (by decide) (by omega) ?_
          intro x20 h21
          refine ⟨_, rfl, ?_⟩
          show ZW _ _ _ _ _ _ _ (54, [some (.ref 386), some (.int v15_1), some (.int v15_2), some (.int v15_3), some (.int v15_4), some (.int v15_5), some (.int x20)], [], M16)
          refine w_gt dX9_tells_54 (t := 15) rfl ?_
          have f22 := (hn19 (431) (v15_1 : Int32).toInt.toNat (Or.inl (by omega))).trans (hfm_15)
          exact ih15 M16 v15_1 v15_2 v15_3 v15_4 v15_5 x20 m_15 hJ17 (by omega) (by omega) (by omega) (by omega) (by omega) (by omega) (zbot _) (ztop _) (by omega) (by omega) (by omega) (by omega) f22 (by omega) (by omega)
        · skip
          refine w_cge_t dX9_tells_20 (t := 57) rfl (by have := zt_1000; omega) ?_
          refine w_lo dX9_tells_57 rfl rfl rfl rfl ?_
          refine w_gf dX9_tells_58 rfl hJ.1.1 zs_386 (zr_386_62 hJ.1) ?_
          refine w_lo dX9_tells_61 rfl rfl rfl rfl ?_
          refine w_pu dX9_tells_62 rfl rfl ?_
          refine w_ia dX9_tells_63 hJ.1.1 zs_431 (znat (by omega)) hfm_15 ?_
          refine w_ic dX9_tells_64 zi_1 ?_
          refine w_sub dX9_tells_65 (by have := zt_1; omega) ?_
          intro x26 h27
          have := zt_1
          refine w_isi dX9_tells_66 hJ zs_431 (by omega) (by omega) zu_431 (by omega) (by omega) (zIR_a (by omega) (by omega)) ?_
          intro M28 hJ29 f30 hn31
          exact ih67 M28 v15_1 v15_2 v15_3 v15_4 v15_5 (some (.int v15_6)) x26 hJ29 (by omega) (by omega) (by omega) (by omega) (by omega) (by omega) (zbot _) (ztop _) (by omega) (by omega) f30 (by omega) (by omega) (by omega)
      · intro M v67_1 v67_2 v67_3 v67_4 v67_5 o67_6 m_67 hJ v67_10 v67_11 v67_20 v67_21 v67_30 v67_31 v67_40 v67_41 v67_50 v67_51 hfm_67 hrm_670 hrm_671 hn
        refine w_si dX9_tells_67 (c := 1000) (by decide) ?_
        refine w_lo dX9_tells_70 rfl rfl rfl rfl ?_
        refine w_mulc dX9_tells_71 zt_1000 (by have := zt_1000; omega) ?_
        intro x32 h33
        have := zt_1000
        refine w_ic dX9_tells_72 zi_5 ?_
        refine w_lo dX9_tells_73 rfl rfl rfl rfl ?_
        refine w_gf dX9_tells_74 rfl hJ.1.1 zs_386 (zr_386_62 hJ.1) ?_
        refine w_lo dX9_tells_77 rfl rfl rfl rfl ?_
        refine w_ia dX9_tells_78 hJ.1.1 zs_431 (znat (by omega)) hfm_67 ?_
        refine w_mulc dX9_tells_79 zt_5 (by have := zt_5; omega) ?_
        intro x37 h38
        have := zt_5
        refine w_add dX9_tells_80 (by omega) ?_
        intro x39 h40
        refine w_lo (ml' := [some (.ref 386), some (.int v67_1), some (.int v67_2), some (.int v67_3), some (.int v67_4), some (.int v67_5), some (.int x39)]) dX9_tells_81 rfl rfl rfl rfl ?_
        refine w_lo dX9_tells_83 rfl rfl rfl rfl ?_
        refine w_gf dX9_tells_84 rfl hJ.1.1 zs_386 (zr_386_63 hJ.1) ?_
        refine w_lo dX9_tells_87 rfl rfl rfl rfl ?_
        refine w_lo dX9_tells_89 rfl rfl rfl rfl ?_
        refine w_gf dX9_tells_90 rfl hJ.1.1 zs_386 (zr_386_49 hJ.1) ?_
        refine w_lo dX9_tells_93 rfl rfl rfl rfl ?_
        refine w_iai dX9_tells_94 hJ.1 zs_418 (by omega) (by omega) zu_418 ?_
        intro x44 f41 h42 h43
        refine w_isi dX9_tells_95 hJ zs_432 (by omega) (by omega) zu_432 (zbot _) (ztop _) (zIR_a (by omega) (by omega)) ?_
        intro M45 hJ46 f47 hn48
        refine w_lo dX9_tells_96 rfl rfl rfl rfl ?_
        refine w_gf dX9_tells_97 rfl hJ46.1.1 zs_386 (zr_386_63 hJ46.1) ?_
        refine w_lo dX9_tells_100 rfl rfl rfl rfl ?_
        refine w_ic dX9_tells_102 zi_1 ?_
        refine w_add dX9_tells_103 (by have := zt_1; omega) ?_
        intro x49 h50
        have := zt_1
        refine w_lo dX9_tells_104 rfl rfl rfl rfl ?_
        refine w_isi dX9_tells_105 hJ46 zs_432 (by omega) (by omega) zu_432 (zbot _) (ztop _) (zIR_a (by omega) (by omega)) ?_
        intro M51 hJ52 f53 hn54
        refine w_lo dX9_tells_106 rfl rfl rfl rfl ?_
        refine w_gf dX9_tells_107 rfl hJ52.1.1 zs_386 (zr_386_63 hJ52.1) ?_
        refine w_lo dX9_tells_110 rfl rfl rfl rfl ?_
        refine w_ic dX9_tells_112 zi_2 ?_
        refine w_add dX9_tells_113 (by have := zt_2; omega) ?_
        intro x55 h56
        have := zt_2
        refine w_lo dX9_tells_114 rfl rfl rfl rfl ?_
        refine w_isi dX9_tells_115 hJ52 zs_432 (by omega) (by omega) zu_432 (zbot _) (ztop _) (zIR_a (by omega) (by omega)) ?_
        intro M57 hJ58 f59 hn60
        refine w_lo dX9_tells_116 rfl rfl rfl rfl ?_
        refine w_gf dX9_tells_117 rfl hJ58.1.1 zs_386 (zr_386_63 hJ58.1) ?_
        refine w_lo dX9_tells_120 rfl rfl rfl rfl ?_
        refine w_ic dX9_tells_122 zi_3 ?_
        refine w_add dX9_tells_123 (by have := zt_3; omega) ?_
        intro x61 h62
        have := zt_3
        refine w_lo dX9_tells_124 rfl rfl rfl rfl ?_
        refine w_isi dX9_tells_126 hJ58 zs_432 (by omega) (by omega) zu_432 (zbot _) (ztop _) (zIR_a (by omega) (by omega)) ?_
        intro M63 hJ64 f65 hn66
        refine w_lo dX9_tells_127 rfl rfl rfl rfl ?_
        refine w_gf dX9_tells_128 rfl hJ64.1.1 zs_386 (zr_386_63 hJ64.1) ?_
        refine w_lo dX9_tells_131 rfl rfl rfl rfl ?_
        refine w_ic dX9_tells_133 zi_4 ?_
        refine w_add dX9_tells_134 (by have := zt_4; omega) ?_
        intro x67 h68
        have := zt_4
        refine w_lo dX9_tells_135 rfl rfl rfl rfl ?_
        refine w_isi dX9_tells_137 hJ64 zs_432 (by omega) (by omega) zu_432 (zbot _) (ztop _) (zIR_a (by omega) (by omega)) ?_
        intro M69 hJ70 f71 hn72
        refine w_lo dX9_tells_138 rfl rfl rfl rfl ?_
        refine w_gf dX9_tells_139 rfl hJ70.1.1 zs_386 (zr_386_62 hJ70.1) ?_
        refine w_lo dX9_tells_142 rfl rfl rfl rfl ?_
        refine w_pu dX9_tells_143 rfl rfl ?_
        have f76 := (hn72 (431) (v67_1 : Int32).toInt.toNat (Or.inl (by omega))).trans ((hn66 (431) (v67_1 : Int32).toInt.toNat (Or.inl (by omega))).trans ((hn60 (431) (v67_1 : Int32).toInt.toNat (Or.inl (by omega))).trans ((hn54 (431) (v67_1 : Int32).toInt.toNat (Or.inl (by omega))).trans ((hn48 (431) (v67_1 : Int32).toInt.toNat (Or.inl (by omega))).trans (hfm_67)))))
        refine w_ia dX9_tells_144 hJ70.1.1 zs_431 (znat (by omega)) f76 ?_
        refine w_ic dX9_tells_145 zi_1 ?_
        refine w_add dX9_tells_146 (by have := zt_1; omega) ?_
        intro x77 h78
        have := zt_1
        refine w_isi dX9_tells_147 hJ70 zs_431 (by omega) (by omega) zu_431 (by omega) (by omega) (zIR_a (by omega) (by omega)) ?_
        intro M79 hJ80 f81 hn82
        refine w_en dX9_tells_148 rfl ?_
        exact ⟨_, rfl, hJ80, trivial⟩
  obtain ⟨ih15, ih67⟩ := main 3995
  show ZW _ _ _ _ _ _ _ (0, [some (.ref 386), some (.int a0), some (.int a1), some (.int a2), some (.int a3), some (.int a4), none], [], M0)
  refine w_lo dX9_tells_0 rfl rfl rfl rfl ?_
  refine w_gf dX9_tells_1 rfl hJ0.1.1 zs_386 (zr_386_62 hJ0.1) ?_
  refine w_lo dX9_tells_4 rfl rfl rfl rfl ?_
  refine w_iai dX9_tells_5 hJ0.1 zs_431 (by omega) (by omega) zu_431 ?_
  intro x86 f83 h84 h85
  refine w_si dX9_tells_6 (c := 200) (by decide) ?_
  rcases Int.decEq x86.toInt (200 : Int) with h87 | h87
  · skip
    refine w_cne_t dX9_tells_9 (t := 67) rfl (by have := zt_200; omega) ?_
    exact ih67 M0 a0 a1 a2 a3 a4 none x86 hJ0 (by omega) (by omega) (by omega) (by omega) (by omega) (by omega) (zbot _) (ztop _) (by omega) (by omega) f83 (by omega) (by omega) (by omega)
  · skip
    refine w_cne_f dX9_tells_9 (t := 67) rfl (by have := zt_200; omega) ?_
    refine w_ic dX9_tells_12 zi_5 ?_
    refine w_lo (ml' := [some (.ref 386), some (.int a0), some (.int a1), some (.int a2), some (.int a3), some (.int a4), some (.int 5)]) dX9_tells_13 rfl rfl rfl rfl ?_
    exact ih15 M0 a0 a1 a2 a3 a4 5 x86 hJ0 (by omega) (by omega) (by omega) (by omega) (by omega) (by omega) (zbot _) (ztop _) (by omega) (by omega) (by have := zt_5; omega) (by have := zt_5; omega) f83 (by have := zt_5; omega) (by have := zt_5; omega)
set_option maxRecDepth 100000 in
theorem k_2385 {X : List Int32} {d N : Nat} {M0 : zM} (a0 : Int32) (ha00 : (0 : Int) ≤ a0.toInt) (ha01 : a0.toInt ≤ 4095) (hN : N ≤ 600) (hB0 : zB N M0) : ZV X (d + 1) 2385 [.int a0] M0 (zRI N [] M0 (-2147483648) (2147483647) (fun _ _ => True)) := by
  have hJ0 : zJ N [] M0 M0 := zJ_refl hB0
  refine ZV.of (ini := false) rfl (Nat.le_of_ble_eq_true rfl) (by decide +kernel) ?_
  have main : ∀ n : Nat,
      (∀ (M : zM) (u4_0 : Int32) (v4_1 : Int32) (v4_2 : Int32), zJ N [] M0 M → ((-2147483648 : Int) ≤ v4_1.toInt) → (v4_1.toInt ≤ 2147483647) → ((0 : Int) ≤ v4_2.toInt) → (v4_2.toInt ≤ 4095) → 3 * (v4_2.toInt - 0) + 1 < (n : Int) → ZW X (d + 0) 9 false (some .int) cX9_bits (zRI N [] M0 (-2147483648) (2147483647) (fun _ _ => True)) (4, [some (.int u4_0), some (.int v4_1), some (.int v4_2)], [], M)) := by
    intro n
    induction n with
    | zero =>
      exact (fun M u4_0 v4_1 v4_2 hJ v4_10 v4_11 v4_20 v4_21 hn => absurd hn (by omega))
    | succ n ih =>
      have ih4 := ih
      · intro M u4_0 v4_1 v4_2 hJ v4_10 v4_11 v4_20 v4_21 hn
        refine w_lo dX9_bits_4 rfl rfl rfl rfl ?_
        rcases Int.decEq v4_2.toInt (0 : Int) with h1 | h1
        · skip
          refine w_ieq_f dX9_bits_5 (t := 21) rfl (by omega) ?_
          refine w_lo dX9_bits_8 rfl rfl rfl rfl ?_
          refine w_lo dX9_bits_9 rfl rfl rfl rfl ?_
          refine w_ic dX9_bits_10 zi_1 ?_
          refine w_and dX9_bits_11 (m := 1) zt_1 (by omega) ?_
          intro x2 h3 h4
          refine w_puI dX9_bits_12 rfl rfl ?_
          intro x5
          refine w_lo (ml' := [some (.int u4_0), some (.int x5), some (.int v4_2)]) dX9_bits_13 rfl rfl rfl rfl ?_
          refine w_lo dX9_bits_14 rfl rfl rfl rfl ?_
          refine w_ic dX9_bits_15 zi_1 ?_
          refine w_shrP dX9_bits_16 (m := 1) (p := 2) (by decide) (by decide) (by omega) ?_
          intro x6 h7 h8
          refine w_lo (ml' := [some (.int u4_0), some (.int x5), some (.int x6)]) dX9_bits_17 rfl rfl rfl rfl ?_
          refine w_gt dX9_bits_18 (t := 4) rfl ?_
          exact ih4 M u4_0 x5 x6 hJ (zbot _) (ztop _) (by omega) (by omega) (by omega)
        · skip
          refine w_ieq_t dX9_bits_5 (t := 21) rfl (by omega) ?_
          refine w_lo dX9_bits_21 rfl rfl rfl rfl ?_
          refine w_eni dX9_bits_22 rfl rfl ?_
          exact ⟨_, _, rfl, (zbot _), (ztop _), hJ, trivial⟩
  have ih4 := main 12297
  show ZW _ _ _ _ _ _ _ (0, [some (.int a0), none, none], [], M0)
  refine w_ic dX9_bits_0 zi_0 ?_
  refine w_lo (ml' := [some (.int a0), some (.int 0), none]) dX9_bits_1 rfl rfl rfl rfl ?_
  refine w_lo dX9_bits_2 rfl rfl rfl rfl ?_
  refine w_lo (ml' := [some (.int a0), some (.int 0), some (.int a0)]) dX9_bits_3 rfl rfl rfl rfl ?_
  exact ih4 M0 a0 0 a0 hJ0 (zbot _) (ztop _) (by omega) (by omega) (by have := zt_0; omega)
set_option maxRecDepth 100000 in
theorem k_2387 {X : List Int32} {d N : Nat} {M0 : zM} (a0 : Int32) (ha00 : (0 : Int) ≤ a0.toInt) (ha01 : a0.toInt ≤ 1) (a1 : Int32) (ha10 : (0 : Int) ≤ a1.toInt) (ha11 : a1.toInt ≤ 11) (hN : N ≤ 600) (hB0 : zB N M0) : ZV X (d + 1) 2387 [.ref 386, .int a0, .int a1] M0 (zRV N [(420, 424, 1000)] M0 (fun _ => True)) := by
  have hJ0 : zJ N [(420, 424, 1000)] M0 M0 := zJ_refl hB0
  refine ZV.of (ini := false) rfl (Nat.le_of_ble_eq_true rfl) (by decide +kernel) ?_
  show ZW _ _ _ _ _ _ _ (0, [some (.ref 386), some (.int a0), some (.int a1)], [], M0)
  refine w_lo dX9_wakesUp_0 rfl rfl rfl rfl ?_
  refine w_gf dX9_wakesUp_1 rfl hJ0.1.1 zs_386 (zr_386_51 hJ0.1) ?_
  refine w_bi dX9_wakesUp_4 (c := 12) (by decide) ?_
  refine w_lo dX9_wakesUp_6 rfl rfl rfl rfl ?_
  refine w_mulc dX9_wakesUp_7 zt_12 (by have := zt_12; omega) ?_
  intro x1 h2
  have := zt_12
  refine w_lo dX9_wakesUp_8 rfl rfl rfl rfl ?_
  refine w_add dX9_wakesUp_9 (by omega) ?_
  intro x3 h4
  refine w_ic dX9_wakesUp_10 zi_0 ?_
  refine w_isi dX9_wakesUp_11 hJ0 zs_420 (by omega) (by omega) zu_420 (by have := zt_0; omega) (by have := zt_0; omega) (zIR_a (by omega) (by omega)) ?_
  intro M5 hJ6 f7 hn8
  refine w_lo dX9_wakesUp_12 rfl rfl rfl rfl ?_
  refine w_gf dX9_wakesUp_13 rfl hJ6.1.1 zs_386 (zr_386_52 hJ6.1) ?_
  refine w_bi dX9_wakesUp_16 (c := 12) (by decide) ?_
  refine w_lo dX9_wakesUp_18 rfl rfl rfl rfl ?_
  refine w_mulc dX9_wakesUp_19 zt_12 (by have := zt_12; omega) ?_
  intro x9 h10
  have := zt_12
  refine w_lo dX9_wakesUp_20 rfl rfl rfl rfl ?_
  refine w_add dX9_wakesUp_21 (by omega) ?_
  intro x11 h12
  refine w_ic dX9_wakesUp_22 zi_m1 ?_
  refine w_isi dX9_wakesUp_23 hJ6 zs_421 (by omega) (by omega) zu_421 (by have := zt_m1; omega) (by have := zt_m1; omega) (zIR_a (by omega) (by omega)) ?_
  intro M13 hJ14 f15 hn16
  refine w_lo dX9_wakesUp_24 rfl rfl rfl rfl ?_
  refine w_gf dX9_wakesUp_25 rfl hJ14.1.1 zs_386 (zr_386_53 hJ14.1) ?_
  refine w_bi dX9_wakesUp_28 (c := 12) (by decide) ?_
  refine w_lo dX9_wakesUp_30 rfl rfl rfl rfl ?_
  refine w_mulc dX9_wakesUp_31 zt_12 (by have := zt_12; omega) ?_
  intro x17 h18
  have := zt_12
  refine w_lo dX9_wakesUp_32 rfl rfl rfl rfl ?_
  refine w_add dX9_wakesUp_33 (by omega) ?_
  intro x19 h20
  refine w_ic dX9_wakesUp_34 zi_0 ?_
  refine w_isi dX9_wakesUp_35 hJ14 zs_422 (by omega) (by omega) zu_422 (zbot _) (ztop _) (zIR_a (by omega) (by omega)) ?_
  intro M21 hJ22 f23 hn24
  refine w_lo dX9_wakesUp_36 rfl rfl rfl rfl ?_
  refine w_gf dX9_wakesUp_37 rfl hJ22.1.1 zs_386 (zr_386_54 hJ22.1) ?_
  refine w_bi dX9_wakesUp_40 (c := 12) (by decide) ?_
  refine w_lo dX9_wakesUp_42 rfl rfl rfl rfl ?_
  refine w_mulc dX9_wakesUp_43 zt_12 (by have := zt_12; omega) ?_
  intro x25 h26
  have := zt_12
  refine w_lo dX9_wakesUp_44 rfl rfl rfl rfl ?_
  refine w_add dX9_wakesUp_45 (by omega) ?_
  intro x27 h28
  refine w_ic dX9_wakesUp_46 zi_m1 ?_
  refine w_isi dX9_wakesUp_47 hJ22 zs_423 (by omega) (by omega) zu_423 (by have := zt_m1; omega) (by have := zt_m1; omega) (zIR_a (by omega) (by omega)) ?_
  intro M29 hJ30 f31 hn32
  refine w_en dX9_wakesUp_48 rfl ?_
  exact ⟨_, rfl, hJ30, trivial⟩
set_option maxRecDepth 100000 in
theorem k_2386 {X : List Int32} {d N : Nat} {M0 : zM} (a0 : Int32) (ha00 : (0 : Int) ≤ a0.toInt) (ha01 : a0.toInt ≤ 1) (a1 : Int32) (ha10 : (0 : Int) ≤ a1.toInt) (ha11 : a1.toInt ≤ 11) (a2 : Int32) (ha20 : (0 : Int) ≤ a2.toInt) (ha21 : a2.toInt ≤ 5) (a3 : Int32) (a4 : Int32) (ha40 : (-1 : Int) ≤ a4.toInt) (ha41 : a4.toInt ≤ 11) (hN : N ≤ 600) (hB0 : zB N M0) : ZV X (d + 3) 2386 [.ref 386, .int a0, .int a1, .int a2, .int a3, .int a4] M0 (zRV N [(420, 429, 1000)] M0 (fun _ => True)) := by
  have hJ0 : zJ N [(420, 429, 1000)] M0 M0 := zJ_refl hB0
  refine ZV.of (ini := false) rfl (Nat.le_of_ble_eq_true rfl) (by decide +kernel) ?_
  have main : ∀ n : Nat,
      (∀ (M : zM) (v66_1 : Int32) (v66_2 : Int32) (v66_3 : Int32) (v66_4 : Int32) (v66_5 : Int32) (v66_6 : Int32) (v66_7 : Int32) (s66_1 : Int32) (s66_2 : Int32), zJ N [(420, 429, 1000)] M0 M → ((0 : Int) ≤ v66_1.toInt) → (v66_1.toInt ≤ 1) → ((0 : Int) ≤ v66_2.toInt) → (v66_2.toInt ≤ 11) → ((0 : Int) ≤ v66_3.toInt) → (v66_3.toInt ≤ 5) → ((-2147483648 : Int) ≤ v66_4.toInt) → (v66_4.toInt ≤ 2147483647) → ((-1 : Int) ≤ v66_5.toInt) → (v66_5.toInt ≤ 11) → ((0 : Int) ≤ v66_6.toInt) → (v66_6.toInt ≤ 11) → ((0 : Int) ≤ v66_7.toInt) → (v66_7.toInt ≤ 23) → ((0 : Int) ≤ s66_1.toInt) → (s66_1.toInt ≤ 23) → ((0 : Int) ≤ s66_2.toInt) → (s66_2.toInt ≤ 2147483647) → 2 < (n : Int) → ZW X (d + 2) 9 false none cX9_isFelt (zRV N [(420, 429, 1000)] M0 (fun _ => True)) (66, [some (.ref 386), some (.int v66_1), some (.int v66_2), some (.int v66_3), some (.int v66_4), some (.int v66_5), some (.int v66_6), some (.int v66_7)], [.int s66_2, .int s66_1, .ref 427], M)) ∧
      (∀ (M : zM) (v113_1 : Int32) (v113_2 : Int32) (v113_3 : Int32) (v113_4 : Int32) (v113_5 : Int32) (v113_6 : Int32) (v113_7 : Int32) (s113_1 : Int32) (s113_2 : Int32), zJ N [(420, 429, 1000)] M0 M → ((0 : Int) ≤ v113_1.toInt) → (v113_1.toInt ≤ 1) → ((0 : Int) ≤ v113_2.toInt) → (v113_2.toInt ≤ 11) → ((0 : Int) ≤ v113_3.toInt) → (v113_3.toInt ≤ 5) → ((-2147483648 : Int) ≤ v113_4.toInt) → (v113_4.toInt ≤ 2147483647) → ((-1 : Int) ≤ v113_5.toInt) → (v113_5.toInt ≤ 11) → ((0 : Int) ≤ v113_6.toInt) → (v113_6.toInt ≤ 11) → ((0 : Int) ≤ v113_7.toInt) → (v113_7.toInt ≤ 23) → ((0 : Int) ≤ s113_1.toInt) → (s113_1.toInt ≤ 23) → ((-2147483648 : Int) ≤ s113_2.toInt) → (s113_2.toInt ≤ 2147483647) → 1 < (n : Int) → ZW X (d + 2) 9 false none cX9_isFelt (zRV N [(420, 429, 1000)] M0 (fun _ => True)) (113, [some (.ref 386), some (.int v113_1), some (.int v113_2), some (.int v113_3), some (.int v113_4), some (.int v113_5), some (.int v113_6), some (.int v113_7)], [.int s113_2, .int s113_1, .ref 428], M)) := by
    intro n
    induction n with
    | zero =>
      exact ⟨(fun M v66_1 v66_2 v66_3 v66_4 v66_5 v66_6 v66_7 s66_1 s66_2 hJ v66_10 v66_11 v66_20 v66_21 v66_30 v66_31 v66_40 v66_41 v66_50 v66_51 v66_60 v66_61 v66_70 v66_71 s66_10 s66_11 s66_20 s66_21 hn => absurd hn (by omega)), (fun M v113_1 v113_2 v113_3 v113_4 v113_5 v113_6 v113_7 s113_1 s113_2 hJ v113_10 v113_11 v113_20 v113_21 v113_30 v113_31 v113_40 v113_41 v113_50 v113_51 v113_60 v113_61 v113_70 v113_71 s113_10 s113_11 s113_20 s113_21 hn => absurd hn (by omega))⟩
    | succ n ih =>
      obtain ⟨ih66, ih113⟩ := ih
      refine ⟨?_, ?_⟩
      · intro M v66_1 v66_2 v66_3 v66_4 v66_5 v66_6 v66_7 s66_1 s66_2 hJ v66_10 v66_11 v66_20 v66_21 v66_30 v66_31 v66_40 v66_41 v66_50 v66_51 v66_60 v66_61 v66_70 v66_71 s66_10 s66_11 s66_20 s66_21 hn
        refine w_isi dX9_isFelt_66 hJ zs_427 (by omega) (by omega) zu_427 (by omega) (ztop _) (zIR_a (by omega) (by omega)) ?_
        intro M1 hJ2 f3 hn4
        refine w_lo dX9_isFelt_67 rfl rfl rfl rfl ?_
        refine w_gf dX9_isFelt_68 rfl hJ2.1.1 zs_386 (zr_386_59 hJ2.1) ?_
        refine w_lo dX9_isFelt_71 rfl rfl rfl rfl ?_
        refine w_lo dX9_isFelt_73 rfl rfl rfl rfl ?_
        refine w_gf dX9_isFelt_74 rfl hJ2.1.1 zs_386 (zr_386_59 hJ2.1) ?_
        refine w_lo dX9_isFelt_77 rfl rfl rfl rfl ?_
        refine w_iai dX9_isFelt_79 hJ2.1 zs_428 (by omega) (by omega) zu_428 ?_
        intro x8 f5 h6 h7
        refine w_lo dX9_isFelt_80 rfl rfl rfl rfl ?_
        refine w_gf dX9_isFelt_81 rfl hJ2.1.1 zs_386 (zr_386_73 hJ2.1) ?_
        refine w_lo dX9_isFelt_84 rfl rfl rfl rfl ?_
        refine w_iai dX9_isFelt_85 hJ2.1 zs_435 (by omega) (by omega) zu_435 ?_
        intro x12 f9 h10 h11
        refine w_puI dX9_isFelt_86 rfl rfl ?_
        intro x13
        refine w_me (st' := [.int 1000000, .int x13, .int v66_7, .ref 428]) dX9_isFelt_87 rfl rfl rfl rfl rfl ?_
        rcases zcut (1000000 : Int) x13.toInt with h14 | h14
        · skip
          refine w_cle_f dX9_isFelt_90 (t := 99) rfl (by have := zt_1000000; omega) ?_
          refine w_me (st' := [.int 1000000, .int v66_7, .ref 428]) dX9_isFelt_93 rfl rfl rfl rfl rfl ?_
          refine w_gt dX9_isFelt_96 (t := 113) rfl ?_
          exact ih113 M1 v66_1 v66_2 v66_3 v66_4 v66_5 v66_6 v66_7 v66_7 1000000 hJ2 (by omega) (by omega) (by omega) (by omega) (by omega) (by omega) (zbot _) (ztop _) (by omega) (by omega) (by omega) (by omega) (by omega) (by omega) (by omega) (by omega) (zbot _) (ztop _) (by have := zt_1000000; omega)
        · skip
          refine w_cle_t dX9_isFelt_90 (t := 99) rfl (by have := zt_1000000; omega) ?_
          refine w_lo dX9_isFelt_99 rfl rfl rfl rfl ?_
          refine w_gf dX9_isFelt_100 rfl hJ2.1.1 zs_386 (zr_386_59 hJ2.1) ?_
          refine w_lo dX9_isFelt_103 rfl rfl rfl rfl ?_
          refine w_ia dX9_isFelt_105 hJ2.1.1 zs_428 (znat (by omega)) f5 ?_
          refine w_lo dX9_isFelt_106 rfl rfl rfl rfl ?_
          refine w_gf dX9_isFelt_107 rfl hJ2.1.1 zs_386 (zr_386_73 hJ2.1) ?_
          refine w_lo dX9_isFelt_110 rfl rfl rfl rfl ?_
          refine w_ia dX9_isFelt_111 hJ2.1.1 zs_435 (znat (by omega)) f9 ?_
          refine w_puI dX9_isFelt_112 rfl rfl ?_
          intro x21
          exact ih113 M1 v66_1 v66_2 v66_3 v66_4 v66_5 v66_6 v66_7 v66_7 x21 hJ2 (by omega) (by omega) (by omega) (by omega) (by omega) (by omega) (zbot _) (ztop _) (by omega) (by omega) (by omega) (by omega) (by omega) (by omega) (by omega) (by omega) (zbot _) (ztop _) (by omega)
      · intro M v113_1 v113_2 v113_3 v113_4 v113_5 v113_6 v113_7 s113_1 s113_2 hJ v113_10 v113_11 v113_20 v113_21 v113_30 v113_31 v113_40 v113_41 v113_50 v113_51 v113_60 v113_61 v113_70 v113_71 s113_10 s113_11 s113_20 s113_21 hn
        refine w_isi dX9_isFelt_113 hJ zs_428 (by omega) (by omega) zu_428 (zbot _) (ztop _) (zIR_a (by omega) (by omega)) ?_
        intro M22 hJ23 f24 hn25
        refine w_lo dX9_isFelt_114 rfl rfl rfl rfl ?_
        refine w_gfi dX9_isFelt_115 rfl hJ23.1 zs_386 (Nat.le_of_ble_eq_true rfl) zo_386_74 ?_
        intro x26 f27 h28 h29
        refine w_lo dX9_isFelt_118 rfl rfl rfl rfl ?_
        refine w_puI dX9_isFelt_119 rfl rfl ?_
        intro x30
        refine w_ic dX9_isFelt_120 zi_1 ?_
        refine w_and dX9_isFelt_121 (m := 1) zt_1 (by omega) ?_
        intro x31 h32 h33
        refine w_ic dX9_isFelt_122 zi_1 ?_
        rcases Int.decEq x31.toInt (1 : Int) with h34 | h34
        · skip
          refine w_cne_t dX9_isFelt_123 (t := 134) rfl (by have := zt_1; omega) ?_
          refine w_lo dX9_isFelt_134 rfl rfl rfl rfl ?_
          refine w_gf dX9_isFelt_135 rfl hJ23.1.1 zs_386 (zr_386_73 hJ23.1) ?_
          refine w_lo dX9_isFelt_138 rfl rfl rfl rfl ?_
          refine w_iai dX9_isFelt_139 hJ23.1 zs_435 (by omega) (by omega) zu_435 ?_
          intro x38 f35 h36 h37
          refine w_lo dX9_isFelt_140 rfl rfl rfl rfl ?_
          refine w_gf dX9_isFelt_141 rfl hJ23.1.1 zs_386 (zr_386_25 hJ23.1) ?_
          refine w_bi dX9_isFelt_144 (c := 6) (by decide) ?_
          refine w_lo dX9_isFelt_146 rfl rfl rfl rfl ?_
          refine w_gfi dX9_isFelt_147 rfl hJ23.1 zs_386 (Nat.le_of_ble_eq_true rfl) zo_386_12 ?_
          intro x39 f40 h41 h42
          refine w_mulc dX9_isFelt_150 zt_6 (by have := zt_6; omega) ?_
          intro x43 h44
          have := zt_6
          refine w_lo dX9_isFelt_151 rfl rfl rfl rfl ?_
          refine w_add dX9_isFelt_152 (by omega) ?_
          intro x45 h46
          refine w_iai dX9_isFelt_153 hJ23.1 zs_400 (by omega) (by omega) zu_400 ?_
          intro x50 f47 h48 h49
          rcases zcut x38.toInt x50.toInt with h51 | h51
          · skip
            refine w_clt_t dX9_isFelt_154 (t := 178) rfl (by omega) ?_
            refine w_en dX9_isFelt_178 rfl ?_
            exact ⟨_, rfl, hJ23, trivial⟩
          · skip
            refine w_clt_f dX9_isFelt_154 (t := 178) rfl (by omega) ?_
            refine w_lo dX9_isFelt_157 rfl rfl rfl rfl ?_
            refine w_lo dX9_isFelt_158 rfl rfl rfl rfl ?_
            refine w_lo dX9_isFelt_159 rfl rfl rfl rfl ?_
            refine w_iv dX9_isFelt_161 rfl rfl (As := [.int v113_1, .int v113_6]) rfl rfl hJ23.1.1 zs_386 (Nat.le_of_ble_eq_true rfl) ?_
            refine ZV.of (ini := false) rfl (Nat.le_of_ble_eq_true rfl) (by decide +kernel) ?_
            show ZW _ _ _ _ _ _ _ (0, [some (.ref 386), some (.int v113_1), some (.int v113_6)], [], M22)
            refine w_lo dX9_canDream_0 rfl rfl rfl rfl ?_
            refine w_gf dX9_canDream_1 rfl hJ23.1.1 zs_386 (zr_386_51 hJ23.1) ?_
            refine w_bi dX9_canDream_4 (c := 12) (by decide) ?_
            refine w_lo dX9_canDream_6 rfl rfl rfl rfl ?_
            refine w_mulc dX9_canDream_7 zt_12 (by have := zt_12; omega) ?_
            intro x52 h53
            have := zt_12
            refine w_lo dX9_canDream_8 rfl rfl rfl rfl ?_
            refine w_add dX9_canDream_9 (by omega) ?_
            intro x54 h55
            refine w_iai dX9_canDream_10 hJ23.1 zs_420 (by omega) (by omega) zu_420 ?_
            intro x59 f56 h57 h58
            refine w_ic dX9_canDream_11 zi_1 ?_
            rcases Int.decEq x59.toInt (1 : Int) with h60 | h60
            · skip
              refine w_cne_t dX9_canDream_12 (t := 42) rfl (by have := zt_1; omega) ?_
              refine w_ic dX9_canDream_42 zi_0 ?_
              refine w_en dX9_canDream_43 rfl ?_
              show ZW _ _ _ _ _ _ _ (164, [some (.ref 386), some (.int v113_1), some (.int v113_2), some (.int v113_3), some (.int v113_4), some (.int v113_5), some (.int v113_6), some (.int v113_7)], [.int 0], M22)
              refine w_ieq_t dX9_isFelt_164 (t := 178) rfl (by have := zt_0; omega) ?_
              refine w_en dX9_isFelt_178 rfl ?_
              exact ⟨_, rfl, hJ23, trivial⟩
            · skip
              refine w_cne_f dX9_canDream_12 (t := 42) rfl (by have := zt_1; omega) ?_
              refine w_lo dX9_canDream_15 rfl rfl rfl rfl ?_
              refine w_lo dX9_canDream_16 rfl rfl rfl rfl ?_
              refine w_iv dX9_canDream_17 rfl rfl (As := [.int v113_6]) rfl rfl hJ23.1.1 zs_386 (Nat.le_of_ble_eq_true rfl) ?_
              refine ZV.of (ini := false) rfl (Nat.le_of_ble_eq_true rfl) (by decide +kernel) ?_
              show ZW _ _ _ _ _ _ _ (0, [some (.ref 386), some (.int v113_6)], [], M22)
              refine w_lo dX9_isGhost_0 rfl rfl rfl rfl ?_
              refine w_gf dX9_isGhost_1 rfl hJ23.1.1 zs_386 (zr_386_19 hJ23.1) ?_
              refine w_bi dX9_isGhost_4 (c := 12) (by decide) ?_
              refine w_lo dX9_isGhost_6 rfl rfl rfl rfl ?_
              refine w_gf dX9_isGhost_7 rfl hJ23.1.1 zs_386 f40 ?_
              refine w_mulc dX9_isGhost_10 zt_12 (by have := zt_12; omega) ?_
              intro x61 h62
              have := zt_12
              refine w_lo dX9_isGhost_11 rfl rfl rfl rfl ?_
              refine w_add dX9_isGhost_12 (by omega) ?_
              intro x63 h64
              refine w_iai dX9_isGhost_13 hJ23.1 zs_394 (by omega) (by omega) zu_394 ?_
              intro x68 f65 h66 h67
              refine w_ic dX9_isGhost_14 zi_2 ?_
              refine w_and dX9_isGhost_15 (m := 2) zt_2 (by omega) ?_
              intro x69 h70 h71
              rcases Int.decEq x69.toInt (0 : Int) with h72 | h72
              · skip
                refine w_ieq_f dX9_isGhost_16 (t := 23) rfl (by omega) ?_
                refine w_ic dX9_isGhost_19 zi_1 ?_
                refine w_gt dX9_isGhost_20 (t := 24) rfl ?_
                refine w_en dX9_isGhost_24 rfl ?_
                show ZW _ _ _ _ _ _ _ (20, [some (.ref 386), some (.int v113_1), some (.int v113_6)], [.int 1], M22)
                refine w_ine_t dX9_canDream_20 (t := 42) rfl (by have := zt_1; omega) ?_
                refine w_ic dX9_canDream_42 zi_0 ?_
                refine w_en dX9_canDream_43 rfl ?_
                show ZW _ _ _ _ _ _ _ (164, [some (.ref 386), some (.int v113_1), some (.int v113_2), some (.int v113_3), some (.int v113_4), some (.int v113_5), some (.int v113_6), some (.int v113_7)], [.int 0], M22)
                refine w_ieq_t dX9_isFelt_164 (t := 178) rfl (by have := zt_0; omega) ?_
                refine w_en dX9_isFelt_178 rfl ?_
                exact ⟨_, rfl, hJ23, trivial⟩
              · skip
                refine w_ieq_t dX9_isGhost_16 (t := 23) rfl (by omega) ?_
                refine w_ic dX9_isGhost_23 zi_0 ?_
                refine w_en dX9_isGhost_24 rfl ?_
                show ZW _ _ _ _ _ _ _ (20, [some (.ref 386), some (.int v113_1), some (.int v113_6)], [.int 0], M22)
                refine w_ine_f dX9_canDream_20 (t := 42) rfl (by have := zt_0; omega) ?_
                refine w_lo dX9_canDream_23 rfl rfl rfl rfl ?_
                refine w_gf dX9_canDream_24 rfl hJ23.1.1 zs_386 (zr_386_52 hJ23.1) ?_
                refine w_bi dX9_canDream_27 (c := 12) (by decide) ?_
                refine w_lo dX9_canDream_29 rfl rfl rfl rfl ?_
                refine w_mulc dX9_canDream_30 zt_12 (by have := zt_12; omega) ?_
                intro x73 h74
                have := zt_12
                refine w_lo dX9_canDream_31 rfl rfl rfl rfl ?_
                refine w_add dX9_canDream_32 (by omega) ?_
                intro x75 h76
                refine w_iai dX9_canDream_33 hJ23.1 zs_421 (by omega) (by omega) zu_421 ?_
                intro x80 f77 h78 h79
                refine w_ic dX9_canDream_34 zi_m1 ?_
                rcases Int.decEq x80.toInt (-1 : Int) with h81 | h81
                · skip
                  refine w_cne_t dX9_canDream_35 (t := 42) rfl (by have := zt_m1; omega) ?_
                  refine w_ic dX9_canDream_42 zi_0 ?_
                  refine w_en dX9_canDream_43 rfl ?_
                  show ZW _ _ _ _ _ _ _ (164, [some (.ref 386), some (.int v113_1), some (.int v113_2), some (.int v113_3), some (.int v113_4), some (.int v113_5), some (.int v113_6), some (.int v113_7)], [.int 0], M22)
                  refine w_ieq_t dX9_isFelt_164 (t := 178) rfl (by have := zt_0; omega) ?_
                  refine w_en dX9_isFelt_178 rfl ?_
                  exact ⟨_, rfl, hJ23, trivial⟩
                · skip
                  refine w_cne_f dX9_canDream_35 (t := 42) rfl (by have := zt_m1; omega) ?_
                  refine w_ic dX9_canDream_38 zi_1 ?_
                  refine w_gt dX9_canDream_39 (t := 43) rfl ?_
                  refine w_en dX9_canDream_43 rfl ?_
                  show ZW _ _ _ _ _ _ _ (164, [some (.ref 386), some (.int v113_1), some (.int v113_2), some (.int v113_3), some (.int v113_4), some (.int v113_5), some (.int v113_6), some (.int v113_7)], [.int 1], M22)
                  refine w_ieq_f dX9_isFelt_164 (t := 178) rfl (by have := zt_1; omega) ?_
                  refine w_lo dX9_isFelt_167 rfl rfl rfl rfl ?_
                  refine w_gf dX9_isFelt_168 rfl hJ23.1.1 zs_386 (zr_386_54 hJ23.1) ?_
                  refine w_lo dX9_isFelt_171 rfl rfl rfl rfl ?_
                  refine w_iai dX9_isFelt_173 hJ23.1 zs_423 (by omega) (by omega) zu_423 ?_
                  intro x85 f82 h83 h84
                  refine w_ic dX9_isFelt_174 zi_m1 ?_
                  rcases Int.decEq x85.toInt (-1 : Int) with h86 | h86
                  · skip
                    refine w_ceq_f dX9_isFelt_175 (t := 179) rfl (by have := zt_m1; omega) ?_
                    refine w_en dX9_isFelt_178 rfl ?_
                    exact ⟨_, rfl, hJ23, trivial⟩
                  · skip
                    refine w_ceq_t dX9_isFelt_175 (t := 179) rfl (by have := zt_m1; omega) ?_
                    refine w_lo dX9_isFelt_179 rfl rfl rfl rfl ?_
                    refine w_gf dX9_isFelt_180 rfl hJ23.1.1 zs_386 (zr_386_54 hJ23.1) ?_
                    refine w_lo dX9_isFelt_183 rfl rfl rfl rfl ?_
                    refine w_lo dX9_isFelt_185 rfl rfl rfl rfl ?_
                    refine w_isi dX9_isFelt_186 hJ23 zs_423 (by omega) (by omega) zu_423 (by omega) (by omega) (zIR_a (by omega) (by omega)) ?_
                    intro M87 hJ88 f89 hn90
                    refine w_lo dX9_isFelt_187 rfl rfl rfl rfl ?_
                    refine w_gf dX9_isFelt_188 rfl hJ88.1.1 zs_386 (zr_386_55 hJ88.1) ?_
                    refine w_lo dX9_isFelt_191 rfl rfl rfl rfl ?_
                    refine w_lo dX9_isFelt_193 rfl rfl rfl rfl ?_
                    refine w_isi dX9_isFelt_195 hJ88 zs_424 (by omega) (by omega) zu_424 (zbot _) (ztop _) (zIR_a (by omega) (by omega)) ?_
                    intro M91 hJ92 f93 hn94
                    refine w_lo dX9_isFelt_196 rfl rfl rfl rfl ?_
                    refine w_gf dX9_isFelt_197 rfl hJ92.1.1 zs_386 (zr_386_56 hJ92.1) ?_
                    refine w_lo dX9_isFelt_200 rfl rfl rfl rfl ?_
                    refine w_lo dX9_isFelt_202 rfl rfl rfl rfl ?_
                    refine w_isi dX9_isFelt_204 hJ92 zs_425 (by omega) (by omega) zu_425 (by omega) (by omega) (zIR_a (by omega) (by omega)) ?_
                    intro M95 hJ96 f97 hn98
                    refine w_en dX9_isFelt_205 rfl ?_
                    exact ⟨_, rfl, hJ96, trivial⟩
        · skip
          refine w_cne_f dX9_isFelt_123 (t := 134) rfl (by have := zt_1; omega) ?_
          refine w_lo dX9_isFelt_126 rfl rfl rfl rfl ?_
          refine w_lo dX9_isFelt_127 rfl rfl rfl rfl ?_
          refine w_lo dX9_isFelt_128 rfl rfl rfl rfl ?_
          refine w_iv dX9_isFelt_130 rfl rfl (As := [.int v113_1, .int v113_6]) rfl rfl hJ23.1.1 zs_386 (Nat.le_of_ble_eq_true rfl) ?_
          refine ZV.imp (k_2387 v113_1 (by omega) (by omega) v113_6 (by omega) (by omega) hN hJ23.1) ?_
          rintro _ ⟨M99, rfl, hJ100, hq101⟩
          have hJ102 := zJ_trans hJ23 hJ100 (zSub_cons (fun _ _ h h' hk => zIR_a (by omega) (by omega)) zSub_nil)
          show ZW _ _ _ _ _ _ _ (133, [some (.ref 386), some (.int v113_1), some (.int v113_2), some (.int v113_3), some (.int v113_4), some (.int v113_5), some (.int v113_6), some (.int v113_7)], [], M99)
          refine w_en dX9_isFelt_133 rfl ?_
          exact ⟨_, rfl, hJ102, trivial⟩
  obtain ⟨ih66, ih113⟩ := main 7
  show ZW _ _ _ _ _ _ _ (0, [some (.ref 386), some (.int a0), some (.int a1), some (.int a2), some (.int a3), some (.int a4), none, none], [], M0)
  refine w_lo dX9_isFelt_0 rfl rfl rfl rfl ?_
  refine w_gf dX9_isFelt_1 rfl hJ0.1.1 zs_386 (zr_386_69 hJ0.1) ?_
  refine w_lo dX9_isFelt_4 rfl rfl rfl rfl ?_
  refine w_iai dX9_isFelt_5 hJ0.1 zs_434 (by omega) (by omega) zu_434 ?_
  intro x106 f103 h104 h105
  refine w_lo (ml' := [some (.ref 386), some (.int a0), some (.int a1), some (.int a2), some (.int a3), some (.int a4), some (.int x106), none]) dX9_isFelt_6 rfl rfl rfl rfl ?_
  refine w_bi dX9_isFelt_8 (c := 12) (by decide) ?_
  refine w_lo dX9_isFelt_10 rfl rfl rfl rfl ?_
  refine w_mulc dX9_isFelt_11 zt_12 (by have := zt_12; omega) ?_
  intro x107 h108
  have := zt_12
  refine w_lo dX9_isFelt_12 rfl rfl rfl rfl ?_
  refine w_add dX9_isFelt_14 (by omega) ?_
  intro x109 h110
  refine w_lo (ml' := [some (.ref 386), some (.int a0), some (.int a1), some (.int a2), some (.int a3), some (.int a4), some (.int x106), some (.int x109)]) dX9_isFelt_15 rfl rfl rfl rfl ?_
  refine w_lo dX9_isFelt_17 rfl rfl rfl rfl ?_
  refine w_gf dX9_isFelt_18 rfl hJ0.1.1 zs_386 (zr_386_57 hJ0.1) ?_
  refine w_lo dX9_isFelt_21 rfl rfl rfl rfl ?_
  refine w_pu dX9_isFelt_23 rfl rfl ?_
  refine w_iai dX9_isFelt_24 hJ0.1 zs_426 (by omega) (by omega) zu_426 ?_
  intro x114 f111 h112 h113
  refine w_ic dX9_isFelt_25 zi_1 ?_
  refine w_puI dX9_isFelt_26 rfl rfl ?_
  intro x115
  refine w_isi dX9_isFelt_27 hJ0 zs_426 (by omega) (by omega) zu_426 (zbot _) (ztop _) (zIR_a (by omega) (by omega)) ?_
  intro M116 hJ117 f118 hn119
  refine w_lo dX9_isFelt_28 rfl rfl rfl rfl ?_
  refine w_gf dX9_isFelt_29 rfl hJ117.1.1 zs_386 (zr_386_58 hJ117.1) ?_
  refine w_lo dX9_isFelt_32 rfl rfl rfl rfl ?_
  refine w_lo dX9_isFelt_34 rfl rfl rfl rfl ?_
  refine w_gf dX9_isFelt_35 rfl hJ117.1.1 zs_386 (zr_386_73 hJ117.1) ?_
  refine w_lo dX9_isFelt_38 rfl rfl rfl rfl ?_
  refine w_iai dX9_isFelt_39 hJ117.1 zs_435 (by omega) (by omega) zu_435 ?_
  intro x123 f120 h121 h122
  refine w_lo dX9_isFelt_40 rfl rfl rfl rfl ?_
  refine w_gf dX9_isFelt_41 rfl hJ117.1.1 zs_386 (zr_386_58 hJ117.1) ?_
  refine w_lo dX9_isFelt_44 rfl rfl rfl rfl ?_
  refine w_iai dX9_isFelt_46 hJ117.1 zs_427 (by omega) (by omega) zu_427 ?_
  intro x127 f124 h125 h126
  rcases zcut x127.toInt x123.toInt with h128 | h128
  · skip
    refine w_cle_f dX9_isFelt_47 (t := 59) rfl (by omega) ?_
    refine w_lo dX9_isFelt_50 rfl rfl rfl rfl ?_
    refine w_gf dX9_isFelt_51 rfl hJ117.1.1 zs_386 (zr_386_73 hJ117.1) ?_
    refine w_lo dX9_isFelt_54 rfl rfl rfl rfl ?_
    refine w_ia dX9_isFelt_55 hJ117.1.1 zs_435 (znat (by omega)) f120 ?_
    refine w_gt dX9_isFelt_56 (t := 66) rfl ?_
    exact ih66 M116 a0 a1 a2 a3 a4 x106 x109 x109 x123 hJ117 (by omega) (by omega) (by omega) (by omega) (by omega) (by omega) (zbot _) (ztop _) (by omega) (by omega) (by omega) (by omega) (by omega) (by omega) (by omega) (by omega) (by omega) (ztop _) (by omega)
  · skip
    refine w_cle_t dX9_isFelt_47 (t := 59) rfl (by omega) ?_
    refine w_lo dX9_isFelt_59 rfl rfl rfl rfl ?_
    refine w_gf dX9_isFelt_60 rfl hJ117.1.1 zs_386 (zr_386_58 hJ117.1) ?_
    refine w_lo dX9_isFelt_63 rfl rfl rfl rfl ?_
    refine w_ia dX9_isFelt_65 hJ117.1.1 zs_427 (znat (by omega)) f124 ?_
    exact ih66 M116 a0 a1 a2 a3 a4 x106 x109 x109 x127 hJ117 (by omega) (by omega) (by omega) (by omega) (by omega) (by omega) (zbot _) (ztop _) (by omega) (by omega) (by omega) (by omega) (by omega) (by omega) (by omega) (by omega) (by omega) (ztop _) (by omega)
set_option maxRecDepth 100000 in
theorem k_2388 {X : List Int32} {d N : Nat} {M0 : zM} (a0 : Int32) (ha00 : (1 : Int) ≤ a0.toInt) (ha01 : a0.toInt ≤ 2147483647) (hN : N ≤ 600) (hB0 : zB N M0) : ZV X (d + 1) 2388 [.ref 386, .int a0] M0 (zRI N [(386, 387, 66)] M0 (0) (2147483647) (fun v M' => (v.toInt < a0.toInt) ∧ True)) := by
  have hJ0 : zJ N [(386, 387, 66)] M0 M0 := zJ_refl hB0
  refine ZV.of (ini := false) rfl (Nat.le_of_ble_eq_true rfl) (by decide +kernel) ?_
  show ZW _ _ _ _ _ _ _ (0, [some (.ref 386), some (.int a0)], [], M0)
  refine w_lo dX9_draw_0 rfl rfl rfl rfl ?_
  refine w_me (st' := [.long (1103515245 : Int64), .ref 386]) dX9_draw_1 rfl rfl rfl rfl rfl ?_
  refine w_lo dX9_draw_4 rfl rfl rfl rfl ?_
  refine w_gfl dX9_draw_5 rfl hJ0.1 zs_386 (Nat.le_of_ble_eq_true rfl) zo_386_66 ?_
  intro y4 f1 h2 h3
  refine w_lmulc dX9_draw_8 ztl_1103515245 (by have := ztl_1103515245; omega) ?_
  intro y5 h6
  have := ztl_1103515245
  refine w_me (st' := [.long (12345 : Int64), .long y5, .ref 386]) dX9_draw_9 rfl rfl rfl rfl rfl ?_
  refine w_ladd dX9_draw_12 (by have := ztl_12345; omega) ?_
  intro y7 h8
  have := ztl_12345
  refine w_me (st' := [.long (2147483648 : Int64), .long y7, .ref 386]) dX9_draw_13 rfl rfl rfl rfl rfl ?_
  refine w_lremP dX9_draw_16 (by omega) (by have := ztl_2147483648; omega) ?_
  intro y9 h10 h11 h12
  have := ztl_2147483648
  refine w_pfl dX9_draw_17 rfl hJ0 zs_386 (Nat.le_of_ble_eq_true rfl) zo_386_66 (by omega) (by omega) (zIR_k (by omega) (by omega)) rfl rfl rfl ?_
  intro M13 hJ14 f15 hn16
  refine w_lo dX9_draw_20 rfl rfl rfl rfl ?_
  refine w_gf dX9_draw_21 rfl hJ14.1.1 zs_386 f15 ?_
  refine w_me (st' := [.long (64 : Int64), .long y9]) dX9_draw_24 rfl rfl rfl rfl rfl ?_
  refine w_ldivP dX9_draw_27 (by omega) (by have := ztl_64; omega) ?_
  intro y17 h18 h19 h20
  have := ztl_64
  refine w_lo dX9_draw_28 rfl rfl rfl rfl ?_
  refine w_i2l dX9_draw_29 ?_
  intro y21 h22
  have := ztop a0; have := zbot a0
  refine w_lremP dX9_draw_30 (by omega) (by omega) ?_
  intro y23 h24 h25 h26
  skip
  refine w_l2i dX9_draw_31 (by omega) ?_
  intro x27 h28
  skip
  refine w_eni dX9_draw_32 rfl rfl ?_
  exact ⟨_, _, rfl, (by omega), (ztop _), hJ14, ⟨(by omega), trivial⟩⟩
set_option maxRecDepth 100000 in
theorem k_2390 {X : List Int32} {d N : Nat} {M0 : zM}  (hN : N ≤ 600) (hB0 : zB N M0) : ZV X (d + 1) 2390 [.ref 386] M0 (zRI N [] M0 (-2147483648) (2147483647) (fun _ _ => True)) := by
  have hJ0 : zJ N [] M0 M0 := zJ_refl hB0
  refine ZV.of (ini := false) rfl (Nat.le_of_ble_eq_true rfl) (by decide +kernel) ?_
  have main : ∀ n : Nat,
      (∀ (M : zM) (v4_1 : Int32) (v4_2 : Int32), zJ N [] M0 M → ((-2147483648 : Int) ≤ v4_1.toInt) → (v4_1.toInt ≤ 2147483647) → ((0 : Int) ≤ v4_2.toInt) → (v4_2.toInt ≤ 6) → 3 * (6 - v4_2.toInt) + 1 < (n : Int) → ZW X (d + 0) 9 false (some .int) cX9_oddsAll (zRI N [] M0 (-2147483648) (2147483647) (fun _ _ => True)) (4, [some (.ref 386), some (.int v4_1), some (.int v4_2)], [], M)) := by
    intro n
    induction n with
    | zero =>
      exact (fun M v4_1 v4_2 hJ v4_10 v4_11 v4_20 v4_21 hn => absurd hn (by omega))
    | succ n ih =>
      have ih4 := ih
      · intro M v4_1 v4_2 hJ v4_10 v4_11 v4_20 v4_21 hn
        refine w_lo dX9_oddsAll_4 rfl rfl rfl rfl ?_
        refine w_lo dX9_oddsAll_5 rfl rfl rfl rfl ?_
        refine w_gf dX9_oddsAll_6 rfl hJ.1.1 zs_386 (zr_386_21 hJ.1) ?_
        refine w_lo dX9_oddsAll_9 rfl rfl rfl rfl ?_
        refine w_gfi dX9_oddsAll_10 rfl hJ.1 zs_386 (Nat.le_of_ble_eq_true rfl) zo_386_12 ?_
        intro x1 f2 h3 h4
        refine w_iai dX9_oddsAll_13 hJ.1 zs_396 (by omega) (by omega) zu_396 ?_
        intro x8 f5 h6 h7
        rcases zcut v4_2.toInt x8.toInt with h9 | h9
        · skip
          refine w_cge_f dX9_oddsAll_14 (t := 40) rfl (by omega) ?_
          refine w_lo dX9_oddsAll_17 rfl rfl rfl rfl ?_
          refine w_lo dX9_oddsAll_18 rfl rfl rfl rfl ?_
          refine w_gf dX9_oddsAll_19 rfl hJ.1.1 zs_386 (zr_386_26 hJ.1) ?_
          refine w_bi dX9_oddsAll_22 (c := 6) (by decide) ?_
          refine w_lo dX9_oddsAll_24 rfl rfl rfl rfl ?_
          refine w_gf dX9_oddsAll_25 rfl hJ.1.1 zs_386 f2 ?_
          refine w_mulc dX9_oddsAll_28 zt_6 (by have := zt_6; omega) ?_
          intro x10 h11
          have := zt_6
          refine w_lo dX9_oddsAll_29 rfl rfl rfl rfl ?_
          refine w_add dX9_oddsAll_30 (by omega) ?_
          intro x12 h13
          refine w_iai dX9_oddsAll_31 hJ.1 zs_401 (by omega) (by omega) zu_401 ?_
          intro x17 f14 h15 h16
          refine w_puI dX9_oddsAll_32 rfl rfl ?_
          intro x18
          refine w_lo (ml' := [some (.ref 386), some (.int x18), some (.int v4_2)]) dX9_oddsAll_33 rfl rfl rfl rfl ?_
          refine w_inc (kk := 2) dX9_oddsAll_34 rfl (m := 1) (by decide) (by omega) ?_
          intro x19 h20
          refine ⟨_, rfl, ?_⟩
          show ZW _ _ _ _ _ _ _ (37, [some (.ref 386), some (.int x18), some (.int x19)], [], M)
          refine w_gt dX9_oddsAll_37 (t := 4) rfl ?_
          exact ih4 M x18 x19 hJ (zbot _) (ztop _) (by omega) (by omega) (by omega)
        · skip
          refine w_cge_t dX9_oddsAll_14 (t := 40) rfl (by omega) ?_
          refine w_lo dX9_oddsAll_40 rfl rfl rfl rfl ?_
          refine w_eni dX9_oddsAll_41 rfl rfl ?_
          exact ⟨_, _, rfl, (zbot _), (ztop _), hJ, trivial⟩
  have ih4 := main 30
  show ZW _ _ _ _ _ _ _ (0, [some (.ref 386), none, none], [], M0)
  refine w_ic dX9_oddsAll_0 zi_0 ?_
  refine w_lo (ml' := [some (.ref 386), some (.int 0), none]) dX9_oddsAll_1 rfl rfl rfl rfl ?_
  refine w_ic dX9_oddsAll_2 zi_0 ?_
  refine w_lo (ml' := [some (.ref 386), some (.int 0), some (.int 0)]) dX9_oddsAll_3 rfl rfl rfl rfl ?_
  exact ih4 M0 0 0 hJ0 (zbot _) (ztop _) (by have := zt_0; omega) (by have := zt_0; omega) (by have := zt_0; omega)
set_option maxRecDepth 100000 in
theorem k_2392 {X : List Int32} {d N : Nat} {M0 : zM} (a0 : Int32) (a1 : Int32) (ha10 : (0 : Int) ≤ a1.toInt) (ha11 : a1.toInt ≤ 1) (hN : N ≤ 600) (hB0 : zB N M0) : ZV X (d + 3) 2392 [.ref 386, .int a0, .int a1] M0 (zRI N [(415, 416, 1000), (418, 433, 1000), (386, 387, 64), (386, 387, 65)] M0 (0) (1) (fun _ _ => True)) := by
  have hJ0 : zJ N [(415, 416, 1000), (418, 433, 1000), (386, 387, 64), (386, 387, 65)] M0 M0 := zJ_refl hB0
  refine ZV.of (ini := false) rfl (Nat.le_of_ble_eq_true rfl) (by decide +kernel) ?_
  show ZW _ _ _ _ _ _ _ (0, [some (.ref 386), some (.int a0), some (.int a1)], [], M0)
  refine w_lo dX9_wake_0 rfl rfl rfl rfl ?_
  refine w_lo dX9_wake_1 rfl rfl rfl rfl ?_
  refine w_iv dX9_wake_2 rfl rfl (As := [.int a0]) rfl rfl hJ0.1.1 zs_386 (Nat.le_of_ble_eq_true rfl) ?_
  refine ZV.of (ini := false) rfl (Nat.le_of_ble_eq_true rfl) (by decide +kernel) ?_
  show ZW _ _ _ _ _ _ _ (0, [some (.ref 386), some (.int a0)], [], M0)
  refine w_lo dX9_isBoy_0 rfl rfl rfl rfl ?_
  rcases zcut a0.toInt (0 : Int) with h1 | h1
  · skip
    refine w_ilt_t dX9_isBoy_1 (t := 21) rfl (by omega) ?_
    refine w_ic dX9_isBoy_21 zi_0 ?_
    refine w_en dX9_isBoy_22 rfl ?_
    show ZW _ _ _ _ _ _ _ (5, [some (.ref 386), some (.int a0), some (.int a1)], [.int 0], M0)
    refine w_ieq_t dX9_wake_5 (t := 26) rfl (by have := zt_0; omega) ?_
    refine w_lo dX9_wake_26 rfl rfl rfl rfl ?_
    refine w_ic dX9_wake_27 zi_2 ?_
    refine w_iv dX9_wake_28 rfl rfl (As := [.int 2]) rfl rfl hJ0.1.1 zs_386 (Nat.le_of_ble_eq_true rfl) ?_
    refine ZV.imp (k_2306 2 (by have := zt_2; omega) (by have := zt_2; omega) hN hJ0.1) ?_
    rintro _ ⟨x5, M2, rfl, h6, h7, hJ3, hq4⟩
    have hJ8 := zJ_trans hJ0 hJ3 (zSub_cons (fun _ _ h h' hk => zIR_a (by omega) (by omega)) zSub_nil)
    show ZW _ _ _ _ _ _ _ (31, [some (.ref 386), some (.int a0), some (.int a1)], [.int x5], M2)
    refine w_ilt_t dX9_wake_31 (t := 38) rfl (by omega) ?_
    refine w_ic dX9_wake_38 zi_0 ?_
    refine w_en dX9_wake_39 rfl ?_
    exact ⟨_, _, rfl, (by have := zt_0; omega), (by have := zt_0; omega), hJ8, trivial⟩
  · skip
    refine w_ilt_f dX9_isBoy_1 (t := 21) rfl (by omega) ?_
    refine w_lo dX9_isBoy_4 rfl rfl rfl rfl ?_
    refine w_lo dX9_isBoy_5 rfl rfl rfl rfl ?_
    refine w_gf dX9_isBoy_6 rfl hJ0.1.1 zs_386 (zr_386_13 hJ0.1) ?_
    refine w_lo dX9_isBoy_9 rfl rfl rfl rfl ?_
    refine w_gfi dX9_isBoy_10 rfl hJ0.1 zs_386 (Nat.le_of_ble_eq_true rfl) zo_386_12 ?_
    intro x9 f10 h11 h12
    refine w_iai dX9_isBoy_13 hJ0.1 zs_388 (by omega) (by omega) zu_388 ?_
    intro x16 f13 h14 h15
    rcases zcut a0.toInt x16.toInt with h17 | h17
    · skip
      refine w_cge_f dX9_isBoy_14 (t := 21) rfl (by omega) ?_
      refine w_ic dX9_isBoy_17 zi_1 ?_
      refine w_gt dX9_isBoy_18 (t := 22) rfl ?_
      refine w_en dX9_isBoy_22 rfl ?_
      show ZW _ _ _ _ _ _ _ (5, [some (.ref 386), some (.int a0), some (.int a1)], [.int 1], M0)
      refine w_ieq_f dX9_wake_5 (t := 26) rfl (by have := zt_1; omega) ?_
      refine w_lo dX9_wake_8 rfl rfl rfl rfl ?_
      refine w_gf dX9_wake_9 rfl hJ0.1.1 zs_386 (zr_386_51 hJ0.1) ?_
      refine w_lo dX9_wake_12 rfl rfl rfl rfl ?_
      refine w_iai dX9_wake_13 hJ0.1 zs_420 (by omega) (by omega) zu_420 ?_
      intro x21 f18 h19 h20
      rcases Int.decEq x21.toInt (0 : Int) with h22 | h22
      · skip
        refine w_ine_t dX9_wake_14 (t := 21) rfl (by omega) ?_
        refine w_ic dX9_wake_21 zi_0 ?_
        refine w_lo dX9_wake_22 rfl rfl rfl rfl ?_
        rcases Int.decEq (0 : Int) a1.toInt with h23 | h23
        · skip
          refine w_cne_t dX9_wake_23 (t := 40) rfl (by have := zt_0; omega) ?_
          refine w_lo dX9_wake_40 rfl rfl rfl rfl ?_
          refine w_iv dX9_wake_41 rfl rfl (As := []) rfl rfl hJ0.1.1 zs_386 (Nat.le_of_ble_eq_true rfl) ?_
          refine ZV.imp (k_2377 hN hJ0.1) ?_
          rintro _ ⟨M24, rfl, hJ25, hq26⟩
          have hJ27 := zJ_trans hJ0 hJ25 (zSub_cons (fun _ _ h h' hk => zIR_s (zIR_a (by omega) (by omega))) (zSub_cons (fun _ _ h h' hk => zIR_s (zIR_s (zIR_e (by omega) (by omega) hk))) (zSub_cons (fun _ _ h h' hk => zIR_s (zIR_s (zIR_s (zIR_e (by omega) (by omega) hk)))) zSub_nil)))
          show ZW _ _ _ _ _ _ _ (44, [some (.ref 386), some (.int a0), some (.int a1)], [], M24)
          refine w_lo dX9_wake_44 rfl rfl rfl rfl ?_
          refine w_ieq_f dX9_wake_45 (t := 57) rfl (by omega) ?_
          refine w_lo dX9_wake_48 rfl rfl rfl rfl ?_
          refine w_ic dX9_wake_49 zi_0 ?_
          refine w_lo dX9_wake_50 rfl rfl rfl rfl ?_
          refine w_iv dX9_wake_51 rfl rfl (As := [.int 0, .int a0]) rfl rfl hJ27.1.1 zs_386 (Nat.le_of_ble_eq_true rfl) ?_
          refine ZV.imp (k_2387 0 (by have := zt_0; omega) (by have := zt_0; omega) a0 (by omega) (by omega) hN hJ27.1) ?_
          rintro _ ⟨M28, rfl, hJ29, hq30⟩
          have hJ31 := zJ_trans hJ27 hJ29 (zSub_cons (fun _ _ h h' hk => zIR_s (zIR_a (by omega) (by omega))) zSub_nil)
          show ZW _ _ _ _ _ _ _ (54, [some (.ref 386), some (.int a0), some (.int a1)], [], M28)
          refine w_gt dX9_wake_54 (t := 64) rfl ?_
          refine w_ic dX9_wake_64 zi_1 ?_
          refine w_en dX9_wake_65 rfl ?_
          exact ⟨_, _, rfl, (by have := zt_1; omega), (by have := zt_1; omega), hJ31, trivial⟩
        · skip
          refine w_cne_f dX9_wake_23 (t := 40) rfl (by have := zt_0; omega) ?_
          refine w_lo dX9_wake_26 rfl rfl rfl rfl ?_
          refine w_ic dX9_wake_27 zi_2 ?_
          refine w_iv dX9_wake_28 rfl rfl (As := [.int 2]) rfl rfl hJ0.1.1 zs_386 (Nat.le_of_ble_eq_true rfl) ?_
          refine ZV.imp (k_2306 2 (by have := zt_2; omega) (by have := zt_2; omega) hN hJ0.1) ?_
          rintro _ ⟨x35, M32, rfl, h36, h37, hJ33, hq34⟩
          have hJ38 := zJ_trans hJ0 hJ33 (zSub_cons (fun _ _ h h' hk => zIR_a (by omega) (by omega)) zSub_nil)
          show ZW _ _ _ _ _ _ _ (31, [some (.ref 386), some (.int a0), some (.int a1)], [.int x35], M32)
          refine w_ilt_t dX9_wake_31 (t := 38) rfl (by omega) ?_
          refine w_ic dX9_wake_38 zi_0 ?_
          refine w_en dX9_wake_39 rfl ?_
          exact ⟨_, _, rfl, (by have := zt_0; omega), (by have := zt_0; omega), hJ38, trivial⟩
      · skip
        refine w_ine_f dX9_wake_14 (t := 21) rfl (by omega) ?_
        refine w_ic dX9_wake_17 zi_1 ?_
        refine w_gt dX9_wake_18 (t := 22) rfl ?_
        refine w_lo dX9_wake_22 rfl rfl rfl rfl ?_
        rcases Int.decEq (1 : Int) a1.toInt with h39 | h39
        · skip
          refine w_cne_t dX9_wake_23 (t := 40) rfl (by have := zt_1; omega) ?_
          refine w_lo dX9_wake_40 rfl rfl rfl rfl ?_
          refine w_iv dX9_wake_41 rfl rfl (As := []) rfl rfl hJ0.1.1 zs_386 (Nat.le_of_ble_eq_true rfl) ?_
          refine ZV.imp (k_2377 hN hJ0.1) ?_
          rintro _ ⟨M40, rfl, hJ41, hq42⟩
          have hJ43 := zJ_trans hJ0 hJ41 (zSub_cons (fun _ _ h h' hk => zIR_s (zIR_a (by omega) (by omega))) (zSub_cons (fun _ _ h h' hk => zIR_s (zIR_s (zIR_e (by omega) (by omega) hk))) (zSub_cons (fun _ _ h h' hk => zIR_s (zIR_s (zIR_s (zIR_e (by omega) (by omega) hk)))) zSub_nil)))
          show ZW _ _ _ _ _ _ _ (44, [some (.ref 386), some (.int a0), some (.int a1)], [], M40)
          refine w_lo dX9_wake_44 rfl rfl rfl rfl ?_
          refine w_ieq_t dX9_wake_45 (t := 57) rfl (by omega) ?_
          refine w_lo dX9_wake_57 rfl rfl rfl rfl ?_
          refine w_gf dX9_wake_58 rfl hJ43.1.1 zs_386 (zr_386_51 hJ43.1) ?_
          refine w_lo dX9_wake_61 rfl rfl rfl rfl ?_
          refine w_ic dX9_wake_62 zi_1 ?_
          refine w_isi dX9_wake_63 hJ43 zs_420 (by omega) (by omega) zu_420 (by have := zt_1; omega) (by have := zt_1; omega) (zIR_s (zIR_a (by omega) (by omega))) ?_
          intro M44 hJ45 f46 hn47
          refine w_ic dX9_wake_64 zi_1 ?_
          refine w_en dX9_wake_65 rfl ?_
          exact ⟨_, _, rfl, (by have := zt_1; omega), (by have := zt_1; omega), hJ45, trivial⟩
        · skip
          refine w_cne_f dX9_wake_23 (t := 40) rfl (by have := zt_1; omega) ?_
          refine w_lo dX9_wake_26 rfl rfl rfl rfl ?_
          refine w_ic dX9_wake_27 zi_2 ?_
          refine w_iv dX9_wake_28 rfl rfl (As := [.int 2]) rfl rfl hJ0.1.1 zs_386 (Nat.le_of_ble_eq_true rfl) ?_
          refine ZV.imp (k_2306 2 (by have := zt_2; omega) (by have := zt_2; omega) hN hJ0.1) ?_
          rintro _ ⟨x51, M48, rfl, h52, h53, hJ49, hq50⟩
          have hJ54 := zJ_trans hJ0 hJ49 (zSub_cons (fun _ _ h h' hk => zIR_a (by omega) (by omega)) zSub_nil)
          show ZW _ _ _ _ _ _ _ (31, [some (.ref 386), some (.int a0), some (.int a1)], [.int x51], M48)
          refine w_ilt_t dX9_wake_31 (t := 38) rfl (by omega) ?_
          refine w_ic dX9_wake_38 zi_0 ?_
          refine w_en dX9_wake_39 rfl ?_
          exact ⟨_, _, rfl, (by have := zt_0; omega), (by have := zt_0; omega), hJ54, trivial⟩
    · skip
      refine w_cge_t dX9_isBoy_14 (t := 21) rfl (by omega) ?_
      refine w_ic dX9_isBoy_21 zi_0 ?_
      refine w_en dX9_isBoy_22 rfl ?_
      show ZW _ _ _ _ _ _ _ (5, [some (.ref 386), some (.int a0), some (.int a1)], [.int 0], M0)
      refine w_ieq_t dX9_wake_5 (t := 26) rfl (by have := zt_0; omega) ?_
      refine w_lo dX9_wake_26 rfl rfl rfl rfl ?_
      refine w_ic dX9_wake_27 zi_2 ?_
      refine w_iv dX9_wake_28 rfl rfl (As := [.int 2]) rfl rfl hJ0.1.1 zs_386 (Nat.le_of_ble_eq_true rfl) ?_
      refine ZV.imp (k_2306 2 (by have := zt_2; omega) (by have := zt_2; omega) hN hJ0.1) ?_
      rintro _ ⟨x58, M55, rfl, h59, h60, hJ56, hq57⟩
      have hJ61 := zJ_trans hJ0 hJ56 (zSub_cons (fun _ _ h h' hk => zIR_a (by omega) (by omega)) zSub_nil)
      show ZW _ _ _ _ _ _ _ (31, [some (.ref 386), some (.int a0), some (.int a1)], [.int x58], M55)
      refine w_ilt_t dX9_wake_31 (t := 38) rfl (by omega) ?_
      refine w_ic dX9_wake_38 zi_0 ?_
      refine w_en dX9_wake_39 rfl ?_
      exact ⟨_, _, rfl, (by have := zt_0; omega), (by have := zt_0; omega), hJ61, trivial⟩
