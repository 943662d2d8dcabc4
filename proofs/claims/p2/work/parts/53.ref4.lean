/-! the reference's methods come to an end, within the box (wip/safe/mks.py) -/
set_option maxRecDepth 100000 in
theorem k_2421 {X : List Int32} {d N : Nat} {M0 : zM} (a0 : Int32) (a1 : Int32) (hN : N ≤ 600) (hB0 : zB N M0) : ZV X (d + 2) 2421 [.ref 386, .int a0, .int a1] M0 (zRI N [] M0 (-2147483648) (2147483647) (fun _ _ => True)) := by
  have hJ0 : zJ N [] M0 M0 := zJ_refl hB0
  refine ZV.of (ini := false) rfl (Nat.le_of_ble_eq_true rfl) (by decide +kernel) ?_
  have main : ∀ n : Nat,
      (∀ (M : zM) (v27_1 : Int32) (v27_2 : Int32) (v27_3 : Int32) (o27_4 : Option Value) (o27_5 : Option Value) (o27_6 : Option Value), zJ N [] M0 M → ((1 : Int) ≤ v27_1.toInt) → (v27_1.toInt ≤ 9999) → ((-1 : Int) ≤ v27_2.toInt) → (v27_2.toInt ≤ 2147483647) → ((0 : Int) ≤ v27_3.toInt) → (v27_3.toInt ≤ 12) → 4 * (12 - v27_3.toInt) + 58 < (n : Int) → ZW X (d + 1) 9 false (some .int) cX9_beds (zRI N [] M0 (-2147483648) (2147483647) (fun _ _ => True)) (27, [some (.ref 386), some (.int v27_1), some (.int v27_2), some (.int v27_3), o27_4, o27_5, o27_6], [], M)) ∧
      (∀ (M : zM) (v69_1 : Int32) (v69_2 : Int32) (v69_3 : Int32) (v69_4 : Int32) (v69_5 : Int32) (o69_6 : Option Value), zJ N [] M0 M → ((1 : Int) ≤ v69_1.toInt) → (v69_1.toInt ≤ 9999) → ((-1 : Int) ≤ v69_2.toInt) → (v69_2.toInt ≤ 2147483647) → ((-2147483648 : Int) ≤ v69_3.toInt) → (v69_3.toInt ≤ 2147483647) → ((-2147483648 : Int) ≤ v69_4.toInt) → (v69_4.toInt ≤ 2147483647) → ((0 : Int) ≤ v69_5.toInt) → (v69_5.toInt ≤ 12) → 4 * (12 - v69_5.toInt) + 1 < (n : Int) → ZW X (d + 1) 9 false (some .int) cX9_beds (zRI N [] M0 (-2147483648) (2147483647) (fun _ _ => True)) (69, [some (.ref 386), some (.int v69_1), some (.int v69_2), some (.int v69_3), some (.int v69_4), some (.int v69_5), o69_6], [], M)) := by
    intro n
    induction n with
    | zero =>
      exact ⟨(fun M v27_1 v27_2 v27_3 o27_4 o27_5 o27_6 hJ v27_10 v27_11 v27_20 v27_21 v27_30 v27_31 hn => absurd hn (by omega)), (fun M v69_1 v69_2 v69_3 v69_4 v69_5 o69_6 hJ v69_10 v69_11 v69_20 v69_21 v69_30 v69_31 v69_40 v69_41 v69_50 v69_51 hn => absurd hn (by omega))⟩
    | succ n ih =>
      obtain ⟨ih27, ih69⟩ := ih
      refine ⟨?_, ?_⟩
      · intro M v27_1 v27_2 v27_3 o27_4 o27_5 o27_6 hJ v27_10 v27_11 v27_20 v27_21 v27_30 v27_31 hn
        refine w_lo dX9_beds_27 rfl rfl rfl rfl ?_
        refine w_lo dX9_beds_28 rfl rfl rfl rfl ?_
        refine w_iv dX9_beds_29 rfl rfl (As := []) rfl rfl hJ.1.1 zs_386 (Nat.le_of_ble_eq_true rfl) ?_
        refine ZV.of (ini := false) rfl (Nat.le_of_ble_eq_true rfl) (by decide +kernel) ?_
        show ZW _ _ _ _ _ _ _ (0, [some (.ref 386)], [], M)
        refine w_lo dX9_many_0 rfl rfl rfl rfl ?_
        refine w_gf dX9_many_1 rfl hJ.1.1 zs_386 (zr_386_13 hJ.1) ?_
        refine w_lo dX9_many_4 rfl rfl rfl rfl ?_
        refine w_gfi dX9_many_5 rfl hJ.1 zs_386 (Nat.le_of_ble_eq_true rfl) zo_386_12 ?_
        intro x1 f2 h3 h4
        refine w_iai dX9_many_8 hJ.1 zs_388 (by omega) (by omega) zu_388 ?_
        intro x8 f5 h6 h7
        refine w_eni dX9_many_9 rfl rfl ?_
        show ZW _ _ _ _ _ _ _ (32, [some (.ref 386), some (.int v27_1), some (.int v27_2), some (.int v27_3), o27_4, o27_5, o27_6], [.int x8, .int v27_3], M)
        rcases zcut v27_3.toInt x8.toInt with h9 | h9
        · skip
          refine w_cge_f dX9_beds_32 (t := 61) rfl (by omega) ?_
          refine w_lo dX9_beds_35 rfl rfl rfl rfl ?_
          refine w_gf dX9_beds_36 rfl hJ.1.1 zs_386 (zr_386_15 hJ.1) ?_
          refine w_bi dX9_beds_39 (c := 12) (by decide) ?_
          refine w_lo dX9_beds_41 rfl rfl rfl rfl ?_
          refine w_gf dX9_beds_42 rfl hJ.1.1 zs_386 f2 ?_
          refine w_mulc dX9_beds_45 zt_12 (by have := zt_12; omega) ?_
          intro x10 h11
          have := zt_12
          refine w_lo dX9_beds_46 rfl rfl rfl rfl ?_
          refine w_add dX9_beds_47 (by omega) ?_
          intro x12 h13
          refine w_iai dX9_beds_48 hJ.1 zs_390 (by omega) (by omega) zu_390 ?_
          intro x17 f14 h15 h16
          refine w_lo dX9_beds_49 rfl rfl rfl rfl ?_
          rcases zcut v27_1.toInt x17.toInt with h18 | h18
          · skip
            refine w_cle_f dX9_beds_50 (t := 55) rfl (by omega) ?_
            refine w_ic dX9_beds_53 zi_m1 ?_
            refine w_en dX9_beds_54 rfl ?_
            exact ⟨_, _, rfl, (zbot _), (ztop _), hJ, trivial⟩
          · skip
            refine w_cle_t dX9_beds_50 (t := 55) rfl (by omega) ?_
            refine w_inc (kk := 3) dX9_beds_55 rfl (m := 1) (by decide) (by omega) ?_
            intro x19 h20
            refine ⟨_, rfl, ?_⟩
            show ZW _ _ _ _ _ _ _ (58, [some (.ref 386), some (.int v27_1), some (.int v27_2), some (.int x19), o27_4, o27_5, o27_6], [], M)
            refine w_gt dX9_beds_58 (t := 27) rfl ?_
            exact ih27 M v27_1 v27_2 x19 o27_4 o27_5 o27_6 hJ (by omega) (by omega) (by omega) (ztop _) (by omega) (by omega) (by omega)
        · skip
          refine w_cge_t dX9_beds_32 (t := 61) rfl (by omega) ?_
          refine w_ic dX9_beds_61 zi_0 ?_
          refine w_lo (ml' := [some (.ref 386), some (.int v27_1), some (.int v27_2), some (.int 0), o27_4, o27_5, o27_6]) dX9_beds_62 rfl rfl rfl rfl ?_
          refine w_ic dX9_beds_63 zi_0 ?_
          refine w_lo (ml' := [some (.ref 386), some (.int v27_1), some (.int v27_2), some (.int 0), some (.int 0), o27_5, o27_6]) dX9_beds_64 rfl rfl rfl rfl ?_
          refine w_ic dX9_beds_66 zi_0 ?_
          refine w_lo (ml' := [some (.ref 386), some (.int v27_1), some (.int v27_2), some (.int 0), some (.int 0), some (.int 0), o27_6]) dX9_beds_67 rfl rfl rfl rfl ?_
          exact ih69 M v27_1 v27_2 0 0 0 o27_6 hJ (by omega) (by omega) (by omega) (ztop _) (zbot _) (ztop _) (zbot _) (ztop _) (by have := zt_0; omega) (by have := zt_0; omega) (by have := zt_0; have := zt_0; have := zt_0; omega)
      · intro M v69_1 v69_2 v69_3 v69_4 v69_5 o69_6 hJ v69_10 v69_11 v69_20 v69_21 v69_30 v69_31 v69_40 v69_41 v69_50 v69_51 hn
        refine w_lo dX9_beds_69 rfl rfl rfl rfl ?_
        refine w_lo dX9_beds_71 rfl rfl rfl rfl ?_
        refine w_iv dX9_beds_72 rfl rfl (As := []) rfl rfl hJ.1.1 zs_386 (Nat.le_of_ble_eq_true rfl) ?_
        refine ZV.of (ini := false) rfl (Nat.le_of_ble_eq_true rfl) (by decide +kernel) ?_
        show ZW _ _ _ _ _ _ _ (0, [some (.ref 386)], [], M)
        refine w_lo dX9_many_0 rfl rfl rfl rfl ?_
        refine w_gf dX9_many_1 rfl hJ.1.1 zs_386 (zr_386_13 hJ.1) ?_
        refine w_lo dX9_many_4 rfl rfl rfl rfl ?_
        refine w_gfi dX9_many_5 rfl hJ.1 zs_386 (Nat.le_of_ble_eq_true rfl) zo_386_12 ?_
        intro x21 f22 h23 h24
        refine w_iai dX9_many_8 hJ.1 zs_388 (by omega) (by omega) zu_388 ?_
        intro x28 f25 h26 h27
        refine w_eni dX9_many_9 rfl rfl ?_
        show ZW _ _ _ _ _ _ _ (75, [some (.ref 386), some (.int v69_1), some (.int v69_2), some (.int v69_3), some (.int v69_4), some (.int v69_5), o69_6], [.int x28, .int v69_5], M)
        rcases zcut v69_5.toInt x28.toInt with h29 | h29
        · skip
          refine w_cge_f dX9_beds_75 (t := 139) rfl (by omega) ?_
          refine w_lo dX9_beds_78 rfl rfl rfl rfl ?_
          refine w_gf dX9_beds_79 rfl hJ.1.1 zs_386 (zr_386_15 hJ.1) ?_
          refine w_bi dX9_beds_82 (c := 12) (by decide) ?_
          refine w_lo dX9_beds_84 rfl rfl rfl rfl ?_
          refine w_gf dX9_beds_85 rfl hJ.1.1 zs_386 f22 ?_
          refine w_mulc dX9_beds_88 zt_12 (by have := zt_12; omega) ?_
          intro x30 h31
          have := zt_12
          refine w_lo dX9_beds_89 rfl rfl rfl rfl ?_
          refine w_gf dX9_beds_90 rfl hJ.1.1 zs_386 (zr_386_50 hJ.1) ?_
          refine w_lo dX9_beds_93 rfl rfl rfl rfl ?_
          refine w_iai dX9_beds_95 hJ.1 zs_419 (by omega) (by omega) zu_419 ?_
          intro x35 f32 h33 h34
          refine w_add dX9_beds_96 (by omega) ?_
          intro x36 h37
          refine w_iai dX9_beds_97 hJ.1 zs_390 (by omega) (by omega) zu_390 ?_
          intro x41 f38 h39 h40
          refine w_lo (ml' := [some (.ref 386), some (.int v69_1), some (.int v69_2), some (.int v69_3), some (.int v69_4), some (.int v69_5), some (.int x41)]) dX9_beds_98 rfl rfl rfl rfl ?_
          refine w_lo dX9_beds_100 rfl rfl rfl rfl ?_
          refine w_lo dX9_beds_102 rfl rfl rfl rfl ?_
          rcases zcut v69_4.toInt x41.toInt with h42 | h42
          · skip
            refine w_cgt_t dX9_beds_104 (t := 112) rfl (by omega) ?_
            refine w_lo dX9_beds_112 rfl rfl rfl rfl ?_
            refine w_lo dX9_beds_113 rfl rfl rfl rfl ?_
            rcases Int.decEq v69_3.toInt v69_2.toInt with h43 | h43
            · skip
              refine w_cne_t dX9_beds_114 (t := 120) rfl (by omega) ?_
              refine w_incT (kk := 3) dX9_beds_120 rfl ?_
              intro x44
              refine ⟨_, rfl, ?_⟩
              show ZW _ _ _ _ _ _ _ (123, [some (.ref 386), some (.int v69_1), some (.int v69_2), some (.int x44), some (.int v69_4), some (.int v69_5), some (.int x41)], [], M)
              refine w_lo dX9_beds_123 rfl rfl rfl rfl ?_
              refine w_lo (ml' := [some (.ref 386), some (.int v69_1), some (.int v69_2), some (.int x44), some (.int v69_1), some (.int v69_5), some (.int x41)]) dX9_beds_124 rfl rfl rfl rfl ?_
              refine w_lo dX9_beds_126 rfl rfl rfl rfl ?_
              refine w_lo dX9_beds_128 rfl rfl rfl rfl ?_
              refine w_puI dX9_beds_130 rfl rfl ?_
              intro x46
              refine w_lo (ml' := [some (.ref 386), some (.int v69_1), some (.int v69_2), some (.int x44), some (.int x46), some (.int v69_5), some (.int x41)]) dX9_beds_131 rfl rfl rfl rfl ?_
              refine w_inc (kk := 5) dX9_beds_133 rfl (m := 1) (by decide) (by omega) ?_
              intro x47 h48
              refine ⟨_, rfl, ?_⟩
              show ZW _ _ _ _ _ _ _ (136, [some (.ref 386), some (.int v69_1), some (.int v69_2), some (.int x44), some (.int x46), some (.int x47), some (.int x41)], [], M)
              refine w_gt dX9_beds_136 (t := 69) rfl ?_
              exact ih69 M v69_1 v69_2 x44 x46 x47 (some (.int x41)) hJ (by omega) (by omega) (by omega) (ztop _) (zbot _) (ztop _) (zbot _) (ztop _) (by omega) (by omega) (by omega)
            · skip
              refine w_cne_f dX9_beds_114 (t := 120) rfl (by omega) ?_
              refine w_lo dX9_beds_117 rfl rfl rfl rfl ?_
              refine w_eni dX9_beds_119 rfl rfl ?_
              exact ⟨_, _, rfl, (zbot _), (ztop _), hJ, trivial⟩
          · skip
            refine w_cgt_f dX9_beds_104 (t := 112) rfl (by omega) ?_
            refine w_lo dX9_beds_107 rfl rfl rfl rfl ?_
            rcases Int.decEq v69_5.toInt (0 : Int) with h49 | h49
            · skip
              refine w_ine_t dX9_beds_109 (t := 126) rfl (by omega) ?_
              refine w_lo dX9_beds_126 rfl rfl rfl rfl ?_
              refine w_lo dX9_beds_128 rfl rfl rfl rfl ?_
              refine w_puI dX9_beds_130 rfl rfl ?_
              intro x50
              refine w_lo (ml' := [some (.ref 386), some (.int v69_1), some (.int v69_2), some (.int v69_3), some (.int x50), some (.int v69_5), some (.int x41)]) dX9_beds_131 rfl rfl rfl rfl ?_
              refine w_inc (kk := 5) dX9_beds_133 rfl (m := 1) (by decide) (by omega) ?_
              intro x51 h52
              refine ⟨_, rfl, ?_⟩
              show ZW _ _ _ _ _ _ _ (136, [some (.ref 386), some (.int v69_1), some (.int v69_2), some (.int v69_3), some (.int x50), some (.int x51), some (.int x41)], [], M)
              refine w_gt dX9_beds_136 (t := 69) rfl ?_
              exact ih69 M v69_1 v69_2 v69_3 x50 x51 (some (.int x41)) hJ (by omega) (by omega) (by omega) (ztop _) (zbot _) (ztop _) (zbot _) (ztop _) (by omega) (by omega) (by omega)
            · skip
              refine w_ine_f dX9_beds_109 (t := 126) rfl (by omega) ?_
              refine w_lo dX9_beds_112 rfl rfl rfl rfl ?_
              refine w_lo dX9_beds_113 rfl rfl rfl rfl ?_
              rcases Int.decEq v69_3.toInt v69_2.toInt with h53 | h53
              · skip
                refine w_cne_t dX9_beds_114 (t := 120) rfl (by omega) ?_
                refine w_incT (kk := 3) dX9_beds_120 rfl ?_
                intro x54
                refine ⟨_, rfl, ?_⟩
                show ZW _ _ _ _ _ _ _ (123, [some (.ref 386), some (.int v69_1), some (.int v69_2), some (.int x54), some (.int v69_4), some (.int v69_5), some (.int x41)], [], M)
                refine w_lo dX9_beds_123 rfl rfl rfl rfl ?_
                refine w_lo (ml' := [some (.ref 386), some (.int v69_1), some (.int v69_2), some (.int x54), some (.int v69_1), some (.int v69_5), some (.int x41)]) dX9_beds_124 rfl rfl rfl rfl ?_
                refine w_lo dX9_beds_126 rfl rfl rfl rfl ?_
                refine w_lo dX9_beds_128 rfl rfl rfl rfl ?_
                refine w_puI dX9_beds_130 rfl rfl ?_
                intro x56
                refine w_lo (ml' := [some (.ref 386), some (.int v69_1), some (.int v69_2), some (.int x54), some (.int x56), some (.int v69_5), some (.int x41)]) dX9_beds_131 rfl rfl rfl rfl ?_
                refine w_inc (kk := 5) dX9_beds_133 rfl (m := 1) (by decide) (by omega) ?_
                intro x57 h58
                refine ⟨_, rfl, ?_⟩
                show ZW _ _ _ _ _ _ _ (136, [some (.ref 386), some (.int v69_1), some (.int v69_2), some (.int x54), some (.int x56), some (.int x57), some (.int x41)], [], M)
                refine w_gt dX9_beds_136 (t := 69) rfl ?_
                exact ih69 M v69_1 v69_2 x54 x56 x57 (some (.int x41)) hJ (by omega) (by omega) (by omega) (ztop _) (zbot _) (ztop _) (zbot _) (ztop _) (by omega) (by omega) (by omega)
              · skip
                refine w_cne_f dX9_beds_114 (t := 120) rfl (by omega) ?_
                refine w_lo dX9_beds_117 rfl rfl rfl rfl ?_
                refine w_eni dX9_beds_119 rfl rfl ?_
                exact ⟨_, _, rfl, (zbot _), (ztop _), hJ, trivial⟩
        · skip
          refine w_cge_t dX9_beds_75 (t := 139) rfl (by omega) ?_
          refine w_lo dX9_beds_139 rfl rfl rfl rfl ?_
          refine w_ic dX9_beds_140 zi_m1 ?_
          rcases Int.decEq v69_2.toInt (-1 : Int) with h59 | h59
          · skip
            refine w_cne_t dX9_beds_141 (t := 148) rfl (by have := zt_m1; omega) ?_
            refine w_ic dX9_beds_148 zi_m1 ?_
            refine w_en dX9_beds_149 rfl ?_
            exact ⟨_, _, rfl, (zbot _), (ztop _), hJ, trivial⟩
          · skip
            refine w_cne_f dX9_beds_141 (t := 148) rfl (by have := zt_m1; omega) ?_
            refine w_lo dX9_beds_144 rfl rfl rfl rfl ?_
            refine w_gt dX9_beds_145 (t := 149) rfl ?_
            refine w_eni dX9_beds_149 rfl rfl ?_
            exact ⟨_, _, rfl, (zbot _), (ztop _), hJ, trivial⟩
  obtain ⟨ih27, ih69⟩ := main 119
  show ZW _ _ _ _ _ _ _ (0, [some (.ref 386), some (.int a0), some (.int a1), none, none, none, none], [], M0)
  refine w_lo dX9_beds_0 rfl rfl rfl rfl ?_
  refine w_ic dX9_beds_1 zi_1 ?_
  refine w_si dX9_beds_2 (c := 9999) (by decide) ?_
  refine w_ss dX9_beds_5 rfl rfl (As := [.int a0, .int 1, .int 9999]) rfl rfl (Nat.le_of_ble_eq_true rfl) ?_
  refine ZV.of (ini := false) rfl (Nat.le_of_ble_eq_true rfl) (by decide +kernel) ?_
  show ZW _ _ _ _ _ _ _ (0, [some (.int a0), some (.int 1), some (.int 9999)], [], M0)
  refine w_lo dX9_is_0 rfl rfl rfl rfl ?_
  refine w_lo dX9_is_1 rfl rfl rfl rfl ?_
  rcases zcut a0.toInt (1 : Int) with h60 | h60
  · skip
    refine w_clt_t dX9_is_2 (t := 14) rfl (by have := zt_1; omega) ?_
    refine w_ic dX9_is_14 zi_0 ?_
    refine w_en dX9_is_15 rfl ?_
    show ZW _ _ _ _ _ _ _ (8, [some (.ref 386), some (.int a0), some (.int a1), none, none, none, none], [.int 0], M0)
    refine w_ieq_t dX9_beds_8 (t := 23) rfl (by have := zt_0; omega) ?_
    refine w_ic dX9_beds_23 zi_m1 ?_
    refine w_en dX9_beds_24 rfl ?_
    exact ⟨_, _, rfl, (zbot _), (ztop _), hJ0, trivial⟩
  · skip
    refine w_clt_f dX9_is_2 (t := 14) rfl (by have := zt_1; omega) ?_
    refine w_lo dX9_is_5 rfl rfl rfl rfl ?_
    refine w_lo dX9_is_6 rfl rfl rfl rfl ?_
    rcases zcut (9999 : Int) a0.toInt with h61 | h61
    · skip
      refine w_cgt_t dX9_is_7 (t := 14) rfl (by have := zt_9999; omega) ?_
      refine w_ic dX9_is_14 zi_0 ?_
      refine w_en dX9_is_15 rfl ?_
      show ZW _ _ _ _ _ _ _ (8, [some (.ref 386), some (.int a0), some (.int a1), none, none, none, none], [.int 0], M0)
      refine w_ieq_t dX9_beds_8 (t := 23) rfl (by have := zt_0; omega) ?_
      refine w_ic dX9_beds_23 zi_m1 ?_
      refine w_en dX9_beds_24 rfl ?_
      exact ⟨_, _, rfl, (zbot _), (ztop _), hJ0, trivial⟩
    · skip
      refine w_cgt_f dX9_is_7 (t := 14) rfl (by have := zt_9999; omega) ?_
      refine w_ic dX9_is_10 zi_1 ?_
      refine w_gt dX9_is_11 (t := 15) rfl ?_
      refine w_en dX9_is_15 rfl ?_
      show ZW _ _ _ _ _ _ _ (8, [some (.ref 386), some (.int a0), some (.int a1), none, none, none, none], [.int 1], M0)
      refine w_ieq_f dX9_beds_8 (t := 23) rfl (by have := zt_1; omega) ?_
      refine w_lo dX9_beds_11 rfl rfl rfl rfl ?_
      refine w_iv dX9_beds_12 rfl rfl (As := []) rfl rfl hJ0.1.1 zs_386 (Nat.le_of_ble_eq_true rfl) ?_
      refine ZV.of (ini := false) rfl (Nat.le_of_ble_eq_true rfl) (by decide +kernel) ?_
      show ZW _ _ _ _ _ _ _ (0, [some (.ref 386)], [], M0)
      refine w_lo dX9_many_0 rfl rfl rfl rfl ?_
      refine w_gf dX9_many_1 rfl hJ0.1.1 zs_386 (zr_386_13 hJ0.1) ?_
      refine w_lo dX9_many_4 rfl rfl rfl rfl ?_
      refine w_gfi dX9_many_5 rfl hJ0.1 zs_386 (Nat.le_of_ble_eq_true rfl) zo_386_12 ?_
      intro x62 f63 h64 h65
      refine w_iai dX9_many_8 hJ0.1 zs_388 (by omega) (by omega) zu_388 ?_
      intro x69 f66 h67 h68
      refine w_eni dX9_many_9 rfl rfl ?_
      show ZW _ _ _ _ _ _ _ (15, [some (.ref 386), some (.int a0), some (.int a1), none, none, none, none], [.int x69], M0)
      rcases Int.decEq x69.toInt (0 : Int) with h70 | h70
      · skip
        refine w_ieq_f dX9_beds_15 (t := 23) rfl (by omega) ?_
        refine w_lo dX9_beds_18 rfl rfl rfl rfl ?_
        refine w_ic dX9_beds_19 zi_m1 ?_
        rcases zcut a1.toInt (-1 : Int) with h71 | h71
        · skip
          refine w_cge_f dX9_beds_20 (t := 25) rfl (by have := zt_m1; omega) ?_
          refine w_ic dX9_beds_23 zi_m1 ?_
          refine w_en dX9_beds_24 rfl ?_
          exact ⟨_, _, rfl, (zbot _), (ztop _), hJ0, trivial⟩
        · skip
          refine w_cge_t dX9_beds_20 (t := 25) rfl (by have := zt_m1; omega) ?_
          refine w_ic dX9_beds_25 zi_0 ?_
          refine w_lo (ml' := [some (.ref 386), some (.int a0), some (.int a1), some (.int 0), none, none, none]) dX9_beds_26 rfl rfl rfl rfl ?_
          exact ih27 M0 a0 a1 0 none none none hJ0 (by omega) (by omega) (by omega) (ztop _) (by have := zt_0; omega) (by have := zt_0; omega) (by have := zt_0; omega)
      · skip
        refine w_ieq_t dX9_beds_15 (t := 23) rfl (by omega) ?_
        refine w_ic dX9_beds_23 zi_m1 ?_
        refine w_en dX9_beds_24 rfl ?_
        exact ⟨_, _, rfl, (zbot _), (ztop _), hJ0, trivial⟩
set_option maxRecDepth 100000 in
theorem k_2425 {X : List Int32} {d N : Nat} {M0 : zM} (a0 : Int32) (hN : N ≤ 600) (hB0 : zB N M0) : ZV X (d + 2) 2425 [.ref 386, .int a0] M0 (zRI N [] M0 (-1) (255) (fun _ _ => True)) := by
  have hJ0 : zJ N [] M0 M0 := zJ_refl hB0
  refine ZV.of (ini := false) rfl (Nat.le_of_ble_eq_true rfl) (by decide +kernel) ?_
  show ZW _ _ _ _ _ _ _ (0, [some (.ref 386), some (.int a0)], [], M0)
  refine w_lo dX9_octet_0 rfl rfl rfl rfl ?_
  refine w_ic dX9_octet_1 zi_0 ?_
  refine w_lo dX9_octet_2 rfl rfl rfl rfl ?_
  refine w_gfi dX9_octet_3 rfl hJ0.1 zs_386 (Nat.le_of_ble_eq_true rfl) zo_386_81 ?_
  intro x1 f2 h3 h4
  refine w_ic dX9_octet_6 zi_1 ?_
  refine w_sub dX9_octet_7 (by have := zt_1; omega) ?_
  intro x5 h6
  have := zt_1
  refine w_ss dX9_octet_8 rfl rfl (As := [.int a0, .int 0, .int x5]) rfl rfl (Nat.le_of_ble_eq_true rfl) ?_
  refine ZV.of (ini := false) rfl (Nat.le_of_ble_eq_true rfl) (by decide +kernel) ?_
  show ZW _ _ _ _ _ _ _ (0, [some (.int a0), some (.int 0), some (.int x5)], [], M0)
  refine w_lo dX9_is_0 rfl rfl rfl rfl ?_
  refine w_lo dX9_is_1 rfl rfl rfl rfl ?_
  rcases zcut a0.toInt (0 : Int) with h7 | h7
  · skip
    refine w_clt_t dX9_is_2 (t := 14) rfl (by have := zt_0; omega) ?_
    refine w_ic dX9_is_14 zi_0 ?_
    refine w_en dX9_is_15 rfl ?_
    show ZW _ _ _ _ _ _ _ (11, [some (.ref 386), some (.int a0)], [.int 0], M0)
    refine w_ieq_t dX9_octet_11 (t := 23) rfl (by have := zt_0; omega) ?_
    refine w_ic dX9_octet_23 zi_m1 ?_
    refine w_en dX9_octet_24 rfl ?_
    exact ⟨_, _, rfl, (by have := zt_m1; omega), (by have := zt_m1; omega), hJ0, trivial⟩
  · skip
    refine w_clt_f dX9_is_2 (t := 14) rfl (by have := zt_0; omega) ?_
    refine w_lo dX9_is_5 rfl rfl rfl rfl ?_
    refine w_lo dX9_is_6 rfl rfl rfl rfl ?_
    rcases zcut x5.toInt a0.toInt with h8 | h8
    · skip
      refine w_cgt_t dX9_is_7 (t := 14) rfl (by omega) ?_
      refine w_ic dX9_is_14 zi_0 ?_
      refine w_en dX9_is_15 rfl ?_
      show ZW _ _ _ _ _ _ _ (11, [some (.ref 386), some (.int a0)], [.int 0], M0)
      refine w_ieq_t dX9_octet_11 (t := 23) rfl (by have := zt_0; omega) ?_
      refine w_ic dX9_octet_23 zi_m1 ?_
      refine w_en dX9_octet_24 rfl ?_
      exact ⟨_, _, rfl, (by have := zt_m1; omega), (by have := zt_m1; omega), hJ0, trivial⟩
    · skip
      refine w_cgt_f dX9_is_7 (t := 14) rfl (by omega) ?_
      refine w_ic dX9_is_10 zi_1 ?_
      refine w_gt dX9_is_11 (t := 15) rfl ?_
      refine w_en dX9_is_15 rfl ?_
      show ZW _ _ _ _ _ _ _ (11, [some (.ref 386), some (.int a0)], [.int 1], M0)
      refine w_ieq_f dX9_octet_11 (t := 23) rfl (by have := zt_1; omega) ?_
      refine w_lo dX9_octet_14 rfl rfl rfl rfl ?_
      refine w_gf dX9_octet_15 rfl hJ0.1.1 zs_386 (zr_386_80 hJ0.1) ?_
      refine w_lo dX9_octet_18 rfl rfl rfl rfl ?_
      refine w_iai dX9_octet_19 hJ0.1 zs_439 (by omega) (by omega) zu_439 ?_
      intro x12 f9 h10 h11
      refine w_gt dX9_octet_20 (t := 24) rfl ?_
      refine w_eni dX9_octet_24 rfl rfl ?_
      exact ⟨_, _, rfl, (by omega), (by omega), hJ0, trivial⟩
set_option maxRecDepth 100000 in
theorem k_2428 {X : List Int32} {d N : Nat} {M0 : zM}  (hN : N ≤ 600) (hB0 : zB N M0) : ZV X (d + 2) 2428 [.ref 386] M0 (zRI N [] M0 (0) (11) (fun _ _ => True)) := by
  have hJ0 : zJ N [] M0 M0 := zJ_refl hB0
  refine ZV.of (ini := false) rfl (Nat.le_of_ble_eq_true rfl) (by decide +kernel) ?_
  show ZW _ _ _ _ _ _ _ (0, [some (.ref 386)], [], M0)
  refine w_lo dX9_knotsMany_0 rfl rfl rfl rfl ?_
  refine w_iv dX9_knotsMany_1 rfl rfl (As := []) rfl rfl hJ0.1.1 zs_386 (Nat.le_of_ble_eq_true rfl) ?_
  refine ZV.of (ini := false) rfl (Nat.le_of_ble_eq_true rfl) (by decide +kernel) ?_
  show ZW _ _ _ _ _ _ _ (0, [some (.ref 386)], [], M0)
  refine w_lo dX9_many_0 rfl rfl rfl rfl ?_
  refine w_gf dX9_many_1 rfl hJ0.1.1 zs_386 (zr_386_13 hJ0.1) ?_
  refine w_lo dX9_many_4 rfl rfl rfl rfl ?_
  refine w_gfi dX9_many_5 rfl hJ0.1 zs_386 (Nat.le_of_ble_eq_true rfl) zo_386_12 ?_
  intro x1 f2 h3 h4
  refine w_iai dX9_many_8 hJ0.1 zs_388 (by omega) (by omega) zu_388 ?_
  intro x8 f5 h6 h7
  refine w_eni dX9_many_9 rfl rfl ?_
  show ZW _ _ _ _ _ _ _ (4, [some (.ref 386)], [.int x8], M0)
  rcases zcut (0 : Int) x8.toInt with h9 | h9
  · skip
    refine w_ile_f dX9_knotsMany_4 (t := 16) rfl (by omega) ?_
    refine w_lo dX9_knotsMany_7 rfl rfl rfl rfl ?_
    refine w_iv dX9_knotsMany_8 rfl rfl (As := []) rfl rfl hJ0.1.1 zs_386 (Nat.le_of_ble_eq_true rfl) ?_
    refine ZV.of (ini := false) rfl (Nat.le_of_ble_eq_true rfl) (by decide +kernel) ?_
    show ZW _ _ _ _ _ _ _ (0, [some (.ref 386)], [], M0)
    refine w_lo dX9_many_0 rfl rfl rfl rfl ?_
    refine w_gf dX9_many_1 rfl hJ0.1.1 zs_386 (zr_386_13 hJ0.1) ?_
    refine w_lo dX9_many_4 rfl rfl rfl rfl ?_
    refine w_gf dX9_many_5 rfl hJ0.1.1 zs_386 f2 ?_
    refine w_ia dX9_many_8 hJ0.1.1 zs_388 (znat (by omega)) f5 ?_
    refine w_eni dX9_many_9 rfl rfl ?_
    show ZW _ _ _ _ _ _ _ (11, [some (.ref 386)], [.int x8], M0)
    refine w_ic dX9_knotsMany_11 zi_1 ?_
    refine w_sub dX9_knotsMany_12 (by have := zt_1; omega) ?_
    intro x13 h14
    have := zt_1
    refine w_gt dX9_knotsMany_13 (t := 17) rfl ?_
    refine w_eni dX9_knotsMany_17 rfl rfl ?_
    exact ⟨_, _, rfl, (by omega), (by omega), hJ0, trivial⟩
  · skip
    refine w_ile_t dX9_knotsMany_4 (t := 16) rfl (by omega) ?_
    refine w_ic dX9_knotsMany_16 zi_0 ?_
    refine w_en dX9_knotsMany_17 rfl ?_
    exact ⟨_, _, rfl, (by have := zt_0; omega), (by have := zt_0; omega), hJ0, trivial⟩
set_option maxRecDepth 100000 in
theorem k_2429 {X : List Int32} {d N : Nat} {M0 : zM} (a0 : Int32) (ha00 : (2 : Int) ≤ a0.toInt) (ha01 : a0.toInt ≤ 88) (hN : N ≤ 600) (hB0 : zB N M0) : ZV X (d + 2) 2429 [.ref 386, .int a0] M0 (zRI N [] M0 (0) (1) (fun _ _ => True)) := by
  have hJ0 : zJ N [] M0 M0 := zJ_refl hB0
  refine ZV.of (ini := false) rfl (Nat.le_of_ble_eq_true rfl) (by decide +kernel) ?_
  have main : ∀ n : Nat,
      (∀ (M : zM) (v129_1 : Int32) (v129_2 : Int32) (v129_3 : Int32) (v129_4 : Int32), zJ N [] M0 M → ((2 : Int) ≤ v129_1.toInt) → (v129_1.toInt ≤ 88) → ((0 : Int) ≤ v129_2.toInt) → (v129_2.toInt ≤ 11) → ((-1 : Int) ≤ v129_3.toInt) → (v129_3.toInt ≤ 5) → ((-1 : Int) ≤ v129_4.toInt) → (v129_4.toInt ≤ 5) → 4 < (n : Int) → ZW X (d + 1) 9 false (some .boolean) cX9_isBoyOn (zRI N [] M0 (0) (1) (fun _ _ => True)) (129, [some (.ref 386), some (.int v129_1), some (.int v129_2), some (.int v129_3), some (.int v129_4)], [], M)) ∧
      (∀ (M : zM) (v140_1 : Int32) (v140_2 : Int32) (v140_3 : Int32) (v140_4 : Int32), zJ N [] M0 M → ((2 : Int) ≤ v140_1.toInt) → (v140_1.toInt ≤ 88) → ((0 : Int) ≤ v140_2.toInt) → (v140_2.toInt ≤ 11) → ((-1 : Int) ≤ v140_3.toInt) → (v140_3.toInt ≤ 5) → ((-1 : Int) ≤ v140_4.toInt) → (v140_4.toInt ≤ 5) → 3 < (n : Int) → ZW X (d + 1) 9 false (some .boolean) cX9_isBoyOn (zRI N [] M0 (0) (1) (fun _ _ => True)) (140, [some (.ref 386), some (.int v140_1), some (.int v140_2), some (.int v140_3), some (.int v140_4)], [], M)) ∧
      (∀ (M : zM) (v159_1 : Int32) (u159_2 : Int32) (v159_3 : Int32) (v159_4 : Int32), zJ N [] M0 M → ((2 : Int) ≤ v159_1.toInt) → (v159_1.toInt ≤ 88) → ((-1 : Int) ≤ v159_3.toInt) → (v159_3.toInt ≤ 5) → ((-1 : Int) ≤ v159_4.toInt) → (v159_4.toInt ≤ 5) → 2 < (n : Int) → ZW X (d + 1) 9 false (some .boolean) cX9_isBoyOn (zRI N [] M0 (0) (1) (fun _ _ => True)) (159, [some (.ref 386), some (.int v159_1), some (.int u159_2), some (.int v159_3), some (.int v159_4)], [], M)) ∧
      (∀ (M : zM) (v172_1 : Int32) (u172_2 : Int32) (u172_3 : Int32) (u172_4 : Int32), zJ N [] M0 M → ((2 : Int) ≤ v172_1.toInt) → (v172_1.toInt ≤ 88) → 1 < (n : Int) → ZW X (d + 1) 9 false (some .boolean) cX9_isBoyOn (zRI N [] M0 (0) (1) (fun _ _ => True)) (172, [some (.ref 386), some (.int v172_1), some (.int u172_2), some (.int u172_3), some (.int u172_4)], [], M)) := by
    intro n
    induction n with
    | zero =>
      exact ⟨(fun M v129_1 v129_2 v129_3 v129_4 hJ v129_10 v129_11 v129_20 v129_21 v129_30 v129_31 v129_40 v129_41 hn => absurd hn (by omega)), (fun M v140_1 v140_2 v140_3 v140_4 hJ v140_10 v140_11 v140_20 v140_21 v140_30 v140_31 v140_40 v140_41 hn => absurd hn (by omega)), (fun M v159_1 u159_2 v159_3 v159_4 hJ v159_10 v159_11 v159_30 v159_31 v159_40 v159_41 hn => absurd hn (by omega)), (fun M v172_1 u172_2 u172_3 u172_4 hJ v172_10 v172_11 hn => absurd hn (by omega))⟩
    | succ n ih =>
      obtain ⟨ih129, ih140, ih159, ih172⟩ := ih
      refine ⟨?_, ?_, ?_, ?_⟩
      · intro M v129_1 v129_2 v129_3 v129_4 hJ v129_10 v129_11 v129_20 v129_21 v129_30 v129_31 v129_40 v129_41 hn
        refine w_lo dX9_isBoyOn_129 rfl rfl rfl rfl ?_
        refine w_ic dX9_isBoyOn_130 zi_m1 ?_
        rcases Int.decEq v129_3.toInt (-1 : Int) with h1 | h1
        · skip
          refine w_cne_t dX9_isBoyOn_131 (t := 140) rfl (by have := zt_m1; omega) ?_
          exact ih140 M v129_1 v129_2 v129_3 v129_4 hJ (by omega) (by omega) (by omega) (by omega) (by omega) (by omega) (by omega) (by omega) (by omega)
        · skip
          refine w_cne_f dX9_isBoyOn_131 (t := 140) rfl (by have := zt_m1; omega) ?_
          refine w_lo dX9_isBoyOn_134 rfl rfl rfl rfl ?_
          refine w_ic dX9_isBoyOn_136 zi_m1 ?_
          rcases Int.decEq v129_4.toInt (-1 : Int) with h2 | h2
          · skip
            refine w_ceq_f dX9_isBoyOn_137 (t := 159) rfl (by have := zt_m1; omega) ?_
            exact ih140 M v129_1 v129_2 v129_3 v129_4 hJ (by omega) (by omega) (by omega) (by omega) (by omega) (by omega) (by omega) (by omega) (by omega)
          · skip
            refine w_ceq_t dX9_isBoyOn_137 (t := 159) rfl (by have := zt_m1; omega) ?_
            exact ih159 M v129_1 v129_2 v129_3 v129_4 hJ (by omega) (by omega) (by omega) (by omega) (by omega) (by omega) (by omega)
      · intro M v140_1 v140_2 v140_3 v140_4 hJ v140_10 v140_11 v140_20 v140_21 v140_30 v140_31 v140_40 v140_41 hn
        refine w_lo dX9_isBoyOn_140 rfl rfl rfl rfl ?_
        refine w_gf dX9_isBoyOn_141 rfl hJ.1.1 zs_386 (zr_386_0 hJ.1) ?_
        refine w_lo dX9_isBoyOn_144 rfl rfl rfl rfl ?_
        refine w_ic dX9_isBoyOn_145 zi_1 ?_
        refine w_add dX9_isBoyOn_146 (by have := zt_1; omega) ?_
        intro x3 h4
        have := zt_1
        refine w_iai dX9_isBoyOn_147 hJ.1 zs_387 (by omega) (by omega) zu_387 ?_
        intro x8 f5 h6 h7
        rcases Int.decEq x8.toInt (0 : Int) with h9 | h9
        · skip
          refine w_ieq_f dX9_isBoyOn_148 (t := 170) rfl (by omega) ?_
          refine w_lo dX9_isBoyOn_151 rfl rfl rfl rfl ?_
          refine w_lo dX9_isBoyOn_152 rfl rfl rfl rfl ?_
          refine w_iv dX9_isBoyOn_153 rfl rfl (As := [.int v140_2]) rfl rfl hJ.1.1 zs_386 (Nat.le_of_ble_eq_true rfl) ?_
          refine ZV.of (ini := false) rfl (Nat.le_of_ble_eq_true rfl) (by decide +kernel) ?_
          show ZW _ _ _ _ _ _ _ (0, [some (.ref 386), some (.int v140_2)], [], M)
          refine w_lo dX9_isGhost_0 rfl rfl rfl rfl ?_
          refine w_gf dX9_isGhost_1 rfl hJ.1.1 zs_386 (zr_386_19 hJ.1) ?_
          refine w_bi dX9_isGhost_4 (c := 12) (by decide) ?_
          refine w_lo dX9_isGhost_6 rfl rfl rfl rfl ?_
          refine w_gfi dX9_isGhost_7 rfl hJ.1 zs_386 (Nat.le_of_ble_eq_true rfl) zo_386_12 ?_
          intro x10 f11 h12 h13
          refine w_mulc dX9_isGhost_10 zt_12 (by have := zt_12; omega) ?_
          intro x14 h15
          have := zt_12
          refine w_lo dX9_isGhost_11 rfl rfl rfl rfl ?_
          refine w_add dX9_isGhost_12 (by omega) ?_
          intro x16 h17
          refine w_iai dX9_isGhost_13 hJ.1 zs_394 (by omega) (by omega) zu_394 ?_
          intro x21 f18 h19 h20
          refine w_ic dX9_isGhost_14 zi_2 ?_
          refine w_and dX9_isGhost_15 (m := 2) zt_2 (by omega) ?_
          intro x22 h23 h24
          rcases Int.decEq x22.toInt (0 : Int) with h25 | h25
          · skip
            refine w_ieq_f dX9_isGhost_16 (t := 23) rfl (by omega) ?_
            refine w_ic dX9_isGhost_19 zi_1 ?_
            refine w_gt dX9_isGhost_20 (t := 24) rfl ?_
            refine w_en dX9_isGhost_24 rfl ?_
            show ZW _ _ _ _ _ _ _ (156, [some (.ref 386), some (.int v140_1), some (.int v140_2), some (.int v140_3), some (.int v140_4)], [.int 1], M)
            refine w_ine_t dX9_isBoyOn_156 (t := 170) rfl (by have := zt_1; omega) ?_
            refine w_ic dX9_isBoyOn_170 zi_0 ?_
            refine w_en dX9_isBoyOn_171 rfl ?_
            exact ⟨_, _, rfl, (by have := zt_0; omega), (by have := zt_0; omega), hJ, trivial⟩
          · skip
            refine w_ieq_t dX9_isGhost_16 (t := 23) rfl (by omega) ?_
            refine w_ic dX9_isGhost_23 zi_0 ?_
            refine w_en dX9_isGhost_24 rfl ?_
            show ZW _ _ _ _ _ _ _ (156, [some (.ref 386), some (.int v140_1), some (.int v140_2), some (.int v140_3), some (.int v140_4)], [.int 0], M)
            refine w_ine_f dX9_isBoyOn_156 (t := 170) rfl (by have := zt_0; omega) ?_
            exact ih159 M v140_1 v140_2 v140_3 v140_4 hJ (by omega) (by omega) (by omega) (by omega) (by omega) (by omega) (by omega)
        · skip
          refine w_ieq_t dX9_isBoyOn_148 (t := 170) rfl (by omega) ?_
          refine w_ic dX9_isBoyOn_170 zi_0 ?_
          refine w_en dX9_isBoyOn_171 rfl ?_
          exact ⟨_, _, rfl, (by have := zt_0; omega), (by have := zt_0; omega), hJ, trivial⟩
      · intro M v159_1 u159_2 v159_3 v159_4 hJ v159_10 v159_11 v159_30 v159_31 v159_40 v159_41 hn
        refine w_lo dX9_isBoyOn_159 rfl rfl rfl rfl ?_
        refine w_ic dX9_isBoyOn_160 zi_m1 ?_
        rcases Int.decEq v159_3.toInt (-1 : Int) with h26 | h26
        · skip
          refine w_ceq_f dX9_isBoyOn_161 (t := 172) rfl (by have := zt_m1; omega) ?_
          refine w_lo dX9_isBoyOn_164 rfl rfl rfl rfl ?_
          refine w_ic dX9_isBoyOn_166 zi_m1 ?_
          rcases Int.decEq v159_4.toInt (-1 : Int) with h27 | h27
          · skip
            refine w_ceq_f dX9_isBoyOn_167 (t := 172) rfl (by have := zt_m1; omega) ?_
            refine w_ic dX9_isBoyOn_170 zi_0 ?_
            refine w_en dX9_isBoyOn_171 rfl ?_
            exact ⟨_, _, rfl, (by have := zt_0; omega), (by have := zt_0; omega), hJ, trivial⟩
          · skip
            refine w_ceq_t dX9_isBoyOn_167 (t := 172) rfl (by have := zt_m1; omega) ?_
            exact ih172 M v159_1 u159_2 v159_3 v159_4 hJ (by omega) (by omega) (by omega)
        · skip
          refine w_ceq_t dX9_isBoyOn_161 (t := 172) rfl (by have := zt_m1; omega) ?_
          exact ih172 M v159_1 u159_2 v159_3 v159_4 hJ (by omega) (by omega) (by omega)
      · intro M v172_1 u172_2 u172_3 u172_4 hJ v172_10 v172_11 hn
        refine w_lo dX9_isBoyOn_172 rfl rfl rfl rfl ?_
        refine w_gf dX9_isBoyOn_173 rfl hJ.1.1 zs_386 (zr_386_0 hJ.1) ?_
        refine w_lo dX9_isBoyOn_176 rfl rfl rfl rfl ?_
        refine w_ic dX9_isBoyOn_177 zi_5 ?_
        refine w_add dX9_isBoyOn_178 (by have := zt_5; omega) ?_
        intro x28 h29
        have := zt_5
        refine w_iai dX9_isBoyOn_179 hJ.1 zs_387 (by omega) (by omega) zu_387 ?_
        intro x33 f30 h31 h32
        refine w_bi dX9_isBoyOn_180 (c := 8) (by decide) ?_
        refine w_puI dX9_isBoyOn_182 rfl rfl ?_
        intro x34
        refine w_lo dX9_isBoyOn_183 rfl rfl rfl rfl ?_
        refine w_gf dX9_isBoyOn_184 rfl hJ.1.1 zs_386 (zr_386_0 hJ.1) ?_
        refine w_lo dX9_isBoyOn_187 rfl rfl rfl rfl ?_
        refine w_bi dX9_isBoyOn_188 (c := 6) (by decide) ?_
        refine w_add dX9_isBoyOn_190 (by have := zt_6; omega) ?_
        intro x35 h36
        have := zt_6
        refine w_iai dX9_isBoyOn_191 hJ.1 zs_387 (by omega) (by omega) zu_387 ?_
        intro x40 f37 h38 h39
        refine w_puI dX9_isBoyOn_192 rfl rfl ?_
        intro x41
        refine w_si dX9_isBoyOn_193 (c := 9999) (by decide) ?_
        rcases zcut (9999 : Int) x41.toInt with h42 | h42
        · skip
          refine w_cgt_t dX9_isBoyOn_196 (t := 203) rfl (by have := zt_9999; omega) ?_
          refine w_ic dX9_isBoyOn_203 zi_0 ?_
          refine w_en dX9_isBoyOn_204 rfl ?_
          exact ⟨_, _, rfl, (by have := zt_0; omega), (by have := zt_0; omega), hJ, trivial⟩
        · skip
          refine w_cgt_f dX9_isBoyOn_196 (t := 203) rfl (by have := zt_9999; omega) ?_
          refine w_ic dX9_isBoyOn_199 zi_1 ?_
          refine w_gt dX9_isBoyOn_200 (t := 204) rfl ?_
          refine w_en dX9_isBoyOn_204 rfl ?_
          exact ⟨_, _, rfl, (by have := zt_1; omega), (by have := zt_1; omega), hJ, trivial⟩
  obtain ⟨ih129, ih140, ih159, ih172⟩ := main 9
  show ZW _ _ _ _ _ _ _ (0, [some (.ref 386), some (.int a0), none, none, none], [], M0)
  refine w_lo dX9_isBoyOn_0 rfl rfl rfl rfl ?_
  refine w_gf dX9_isBoyOn_1 rfl hJ0.1.1 zs_386 (zr_386_0 hJ0.1) ?_
  refine w_lo dX9_isBoyOn_4 rfl rfl rfl rfl ?_
  refine w_iai dX9_isBoyOn_5 hJ0.1 zs_387 (by omega) (by omega) zu_387 ?_
  intro x46 f43 h44 h45
  refine w_lo (ml' := [some (.ref 386), some (.int a0), some (.int x46), none, none]) dX9_isBoyOn_6 rfl rfl rfl rfl ?_
  refine w_lo dX9_isBoyOn_7 rfl rfl rfl rfl ?_
  refine w_gf dX9_isBoyOn_8 rfl hJ0.1.1 zs_386 (zr_386_0 hJ0.1) ?_
  refine w_lo dX9_isBoyOn_11 rfl rfl rfl rfl ?_
  refine w_ic dX9_isBoyOn_12 zi_2 ?_
  refine w_add dX9_isBoyOn_13 (by have := zt_2; omega) ?_
  intro x47 h48
  have := zt_2
  refine w_iai dX9_isBoyOn_14 hJ0.1 zs_387 (by omega) (by omega) zu_387 ?_
  intro x52 f49 h50 h51
  refine w_ic dX9_isBoyOn_15 zi_1 ?_
  refine w_sub dX9_isBoyOn_16 (by have := zt_1; omega) ?_
  intro x53 h54
  have := zt_1
  refine w_lo (ml' := [some (.ref 386), some (.int a0), some (.int x46), some (.int x53), none]) dX9_isBoyOn_17 rfl rfl rfl rfl ?_
  refine w_lo dX9_isBoyOn_18 rfl rfl rfl rfl ?_
  refine w_gf dX9_isBoyOn_19 rfl hJ0.1.1 zs_386 (zr_386_0 hJ0.1) ?_
  refine w_lo dX9_isBoyOn_22 rfl rfl rfl rfl ?_
  refine w_ic dX9_isBoyOn_23 zi_4 ?_
  refine w_add dX9_isBoyOn_24 (by have := zt_4; omega) ?_
  intro x55 h56
  have := zt_4
  refine w_iai dX9_isBoyOn_25 hJ0.1 zs_387 (by omega) (by omega) zu_387 ?_
  intro x60 f57 h58 h59
  refine w_ic dX9_isBoyOn_26 zi_1 ?_
  refine w_sub dX9_isBoyOn_27 (by have := zt_1; omega) ?_
  intro x61 h62
  have := zt_1
  refine w_lo (ml' := [some (.ref 386), some (.int a0), some (.int x46), some (.int x53), some (.int x61)]) dX9_isBoyOn_28 rfl rfl rfl rfl ?_
  refine w_lo dX9_isBoyOn_30 rfl rfl rfl rfl ?_
  refine w_lo dX9_isBoyOn_31 rfl rfl rfl rfl ?_
  refine w_iv dX9_isBoyOn_32 rfl rfl (As := []) rfl rfl hJ0.1.1 zs_386 (Nat.le_of_ble_eq_true rfl) ?_
  refine ZV.of (ini := false) rfl (Nat.le_of_ble_eq_true rfl) (by decide +kernel) ?_
  show ZW _ _ _ _ _ _ _ (0, [some (.ref 386)], [], M0)
  refine w_lo dX9_many_0 rfl rfl rfl rfl ?_
  refine w_gf dX9_many_1 rfl hJ0.1.1 zs_386 (zr_386_13 hJ0.1) ?_
  refine w_lo dX9_many_4 rfl rfl rfl rfl ?_
  refine w_gfi dX9_many_5 rfl hJ0.1 zs_386 (Nat.le_of_ble_eq_true rfl) zo_386_12 ?_
  intro x63 f64 h65 h66
  refine w_iai dX9_many_8 hJ0.1 zs_388 (by omega) (by omega) zu_388 ?_
  intro x70 f67 h68 h69
  refine w_eni dX9_many_9 rfl rfl ?_
  show ZW _ _ _ _ _ _ _ (35, [some (.ref 386), some (.int a0), some (.int x46), some (.int x53), some (.int x61)], [.int x70, .int x46], M0)
  rcases zcut x46.toInt x70.toInt with h71 | h71
  · skip
    refine w_cge_f dX9_isBoyOn_35 (t := 77) rfl (by omega) ?_
    refine w_lo dX9_isBoyOn_38 rfl rfl rfl rfl ?_
    refine w_gf dX9_isBoyOn_39 rfl hJ0.1.1 zs_386 (zr_386_0 hJ0.1) ?_
    refine w_lo dX9_isBoyOn_42 rfl rfl rfl rfl ?_
    refine w_ic dX9_isBoyOn_43 zi_1 ?_
    refine w_add dX9_isBoyOn_44 (by have := zt_1; omega) ?_
    intro x72 h73
    have := zt_1
    refine w_iai dX9_isBoyOn_45 hJ0.1 zs_387 (by omega) (by omega) zu_387 ?_
    intro x77 f74 h75 h76
    refine w_ic dX9_isBoyOn_46 zi_1 ?_
    rcases zcut (1 : Int) x77.toInt with h78 | h78
    · skip
      refine w_cgt_t dX9_isBoyOn_47 (t := 77) rfl (by have := zt_1; omega) ?_
      refine w_ic dX9_isBoyOn_77 zi_0 ?_
      refine w_en dX9_isBoyOn_78 rfl ?_
      exact ⟨_, _, rfl, (by have := zt_0; omega), (by have := zt_0; omega), hJ0, trivial⟩
    · skip
      refine w_cgt_f dX9_isBoyOn_47 (t := 77) rfl (by have := zt_1; omega) ?_
      refine w_lo dX9_isBoyOn_50 rfl rfl rfl rfl ?_
      refine w_lo dX9_isBoyOn_51 rfl rfl rfl rfl ?_
      refine w_gf dX9_isBoyOn_52 rfl hJ0.1.1 zs_386 (zr_386_21 hJ0.1) ?_
      refine w_lo dX9_isBoyOn_55 rfl rfl rfl rfl ?_
      refine w_gf dX9_isBoyOn_56 rfl hJ0.1.1 zs_386 f64 ?_
      refine w_iai dX9_isBoyOn_59 hJ0.1 zs_396 (by omega) (by omega) zu_396 ?_
      intro x82 f79 h80 h81
      rcases zcut x53.toInt x82.toInt with h83 | h83
      · skip
        refine w_cge_f dX9_isBoyOn_60 (t := 77) rfl (by omega) ?_
        refine w_lo dX9_isBoyOn_63 rfl rfl rfl rfl ?_
        refine w_lo dX9_isBoyOn_65 rfl rfl rfl rfl ?_
        refine w_gf dX9_isBoyOn_66 rfl hJ0.1.1 zs_386 (zr_386_21 hJ0.1) ?_
        refine w_lo dX9_isBoyOn_69 rfl rfl rfl rfl ?_
        refine w_gf dX9_isBoyOn_70 rfl hJ0.1.1 zs_386 f64 ?_
        refine w_ia dX9_isBoyOn_73 hJ0.1.1 zs_396 (znat (by omega)) f79 ?_
        rcases zcut x61.toInt x82.toInt with h87 | h87
        · skip
          refine w_clt_t dX9_isBoyOn_74 (t := 79) rfl (by omega) ?_
          refine w_lo dX9_isBoyOn_79 rfl rfl rfl rfl ?_
          refine w_ic dX9_isBoyOn_80 zi_m1 ?_
          rcases Int.decEq x53.toInt (-1 : Int) with h88 | h88
          · skip
            refine w_cne_t dX9_isBoyOn_81 (t := 98) rfl (by have := zt_m1; omega) ?_
            refine w_lo dX9_isBoyOn_98 rfl rfl rfl rfl ?_
            refine w_gf dX9_isBoyOn_99 rfl hJ0.1.1 zs_386 (zr_386_0 hJ0.1) ?_
            refine w_lo dX9_isBoyOn_102 rfl rfl rfl rfl ?_
            refine w_ic dX9_isBoyOn_103 zi_3 ?_
            refine w_add dX9_isBoyOn_104 (by have := zt_3; omega) ?_
            intro x89 h90
            have := zt_3
            refine w_iai dX9_isBoyOn_105 hJ0.1 zs_387 (by omega) (by omega) zu_387 ?_
            intro x94 f91 h92 h93
            refine w_ic dX9_isBoyOn_106 zi_1 ?_
            refine w_lo dX9_isBoyOn_107 rfl rfl rfl rfl ?_
            refine w_gf dX9_isBoyOn_108 rfl hJ0.1.1 zs_386 (zr_386_24 hJ0.1) ?_
            refine w_bi dX9_isBoyOn_111 (c := 6) (by decide) ?_
            refine w_lo dX9_isBoyOn_113 rfl rfl rfl rfl ?_
            refine w_gf dX9_isBoyOn_114 rfl hJ0.1.1 zs_386 f64 ?_
            refine w_mulc dX9_isBoyOn_117 zt_6 (by have := zt_6; omega) ?_
            intro x95 h96
            have := zt_6
            refine w_lo dX9_isBoyOn_118 rfl rfl rfl rfl ?_
            refine w_add dX9_isBoyOn_119 (by omega) ?_
            intro x97 h98
            refine w_iai dX9_isBoyOn_120 hJ0.1 zs_399 (by omega) (by omega) zu_399 ?_
            intro x102 f99 h100 h101
            refine w_ss dX9_isBoyOn_121 rfl rfl (As := [.int x94, .int 1, .int x102]) rfl rfl (Nat.le_of_ble_eq_true rfl) ?_
            refine ZV.of (ini := false) rfl (Nat.le_of_ble_eq_true rfl) (by decide +kernel) ?_
            show ZW _ _ _ _ _ _ _ (0, [some (.int x94), some (.int 1), some (.int x102)], [], M0)
            refine w_lo dX9_is_0 rfl rfl rfl rfl ?_
            refine w_lo dX9_is_1 rfl rfl rfl rfl ?_
            rcases zcut x94.toInt (1 : Int) with h103 | h103
            · skip
              refine w_clt_t dX9_is_2 (t := 14) rfl (by have := zt_1; omega) ?_
              refine w_ic dX9_is_14 zi_0 ?_
              refine w_en dX9_is_15 rfl ?_
              show ZW _ _ _ _ _ _ _ (124, [some (.ref 386), some (.int a0), some (.int x46), some (.int x53), some (.int x61)], [.int 0], M0)
              refine w_ine_f dX9_isBoyOn_124 (t := 129) rfl (by have := zt_0; omega) ?_
              refine w_ic dX9_isBoyOn_127 zi_0 ?_
              refine w_en dX9_isBoyOn_128 rfl ?_
              exact ⟨_, _, rfl, (by have := zt_0; omega), (by have := zt_0; omega), hJ0, trivial⟩
            · skip
              refine w_clt_f dX9_is_2 (t := 14) rfl (by have := zt_1; omega) ?_
              refine w_lo dX9_is_5 rfl rfl rfl rfl ?_
              refine w_lo dX9_is_6 rfl rfl rfl rfl ?_
              rcases zcut x102.toInt x94.toInt with h104 | h104
              · skip
                refine w_cgt_t dX9_is_7 (t := 14) rfl (by omega) ?_
                refine w_ic dX9_is_14 zi_0 ?_
                refine w_en dX9_is_15 rfl ?_
                show ZW _ _ _ _ _ _ _ (124, [some (.ref 386), some (.int a0), some (.int x46), some (.int x53), some (.int x61)], [.int 0], M0)
                refine w_ine_f dX9_isBoyOn_124 (t := 129) rfl (by have := zt_0; omega) ?_
                refine w_ic dX9_isBoyOn_127 zi_0 ?_
                refine w_en dX9_isBoyOn_128 rfl ?_
                exact ⟨_, _, rfl, (by have := zt_0; omega), (by have := zt_0; omega), hJ0, trivial⟩
              · skip
                refine w_cgt_f dX9_is_7 (t := 14) rfl (by omega) ?_
                refine w_ic dX9_is_10 zi_1 ?_
                refine w_gt dX9_is_11 (t := 15) rfl ?_
                refine w_en dX9_is_15 rfl ?_
                show ZW _ _ _ _ _ _ _ (124, [some (.ref 386), some (.int a0), some (.int x46), some (.int x53), some (.int x61)], [.int 1], M0)
                refine w_ine_t dX9_isBoyOn_124 (t := 129) rfl (by have := zt_1; omega) ?_
                exact ih129 M0 a0 x46 x53 x61 hJ0 (by omega) (by omega) (by omega) (by omega) (by omega) (by omega) (by omega) (by omega) (by omega)
          · skip
            refine w_cne_f dX9_isBoyOn_81 (t := 98) rfl (by have := zt_m1; omega) ?_
            refine w_lo dX9_isBoyOn_84 rfl rfl rfl rfl ?_
            refine w_gf dX9_isBoyOn_85 rfl hJ0.1.1 zs_386 (zr_386_0 hJ0.1) ?_
            refine w_lo dX9_isBoyOn_88 rfl rfl rfl rfl ?_
            refine w_ic dX9_isBoyOn_89 zi_3 ?_
            refine w_add dX9_isBoyOn_90 (by have := zt_3; omega) ?_
            intro x105 h106
            have := zt_3
            refine w_iai dX9_isBoyOn_91 hJ0.1 zs_387 (by omega) (by omega) zu_387 ?_
            intro x110 f107 h108 h109
            rcases Int.decEq x110.toInt (0 : Int) with h111 | h111
            · skip
              refine w_ieq_f dX9_isBoyOn_92 (t := 129) rfl (by omega) ?_
              refine w_gt dX9_isBoyOn_95 (t := 127) rfl ?_
              refine w_ic dX9_isBoyOn_127 zi_0 ?_
              refine w_en dX9_isBoyOn_128 rfl ?_
              exact ⟨_, _, rfl, (by have := zt_0; omega), (by have := zt_0; omega), hJ0, trivial⟩
            · skip
              refine w_ieq_t dX9_isBoyOn_92 (t := 129) rfl (by omega) ?_
              exact ih129 M0 a0 x46 x53 x61 hJ0 (by omega) (by omega) (by omega) (by omega) (by omega) (by omega) (by omega) (by omega) (by omega)
        · skip
          refine w_clt_f dX9_isBoyOn_74 (t := 79) rfl (by omega) ?_
          refine w_ic dX9_isBoyOn_77 zi_0 ?_
          refine w_en dX9_isBoyOn_78 rfl ?_
          exact ⟨_, _, rfl, (by have := zt_0; omega), (by have := zt_0; omega), hJ0, trivial⟩
      · skip
        refine w_cge_t dX9_isBoyOn_60 (t := 77) rfl (by omega) ?_
        refine w_ic dX9_isBoyOn_77 zi_0 ?_
        refine w_en dX9_isBoyOn_78 rfl ?_
        exact ⟨_, _, rfl, (by have := zt_0; omega), (by have := zt_0; omega), hJ0, trivial⟩
  · skip
    refine w_cge_t dX9_isBoyOn_35 (t := 77) rfl (by omega) ?_
    refine w_ic dX9_isBoyOn_77 zi_0 ?_
    refine w_en dX9_isBoyOn_78 rfl ?_
    exact ⟨_, _, rfl, (by have := zt_0; omega), (by have := zt_0; omega), hJ0, trivial⟩
set_option maxRecDepth 100000 in
theorem k_2427 {X : List Int32} {d N : Nat} {M0 : zM} (a0 : Int32) (ha00 : (0 : Int) ≤ a0.toInt) (ha01 : a0.toInt ≤ 1600) (hN : N ≤ 600) (hB0 : zB N M0) : ZV X (d + 3) 2427 [.ref 386, .int a0] M0 (zRI N [] M0 (0) (1) (fun _ _ => True)) := by
  have hJ0 : zJ N [] M0 M0 := zJ_refl hB0
  refine ZV.of (ini := false) rfl (Nat.le_of_ble_eq_true rfl) (by decide +kernel) ?_
  have main : ∀ n : Nat,
      (∀ (M : zM) (v27_1 : Int32) (v27_2 : Int32) (v27_3 : Int32) (o27_4 : Option Value), zJ N [] M0 M → ((3 : Int) ≤ v27_1.toInt) → (v27_1.toInt ≤ 109) → ((0 : Int) ≤ v27_2.toInt) → (v27_2.toInt ≤ 250) → ((0 : Int) ≤ v27_3.toInt) → (v27_3.toInt ≤ 108) → 6 * (108 - v27_3.toInt) + 1258 < (n : Int) → ZW X (d + 2) 9 false (some .boolean) cX9_isImage (zRI N [] M0 (0) (1) (fun _ _ => True)) (27, [some (.ref 386), some (.int v27_1), some (.int v27_2), some (.int v27_3), o27_4], [], M)) ∧
      (∀ (M : zM) (u93_1 : Int32) (u93_2 : Int32) (v93_3 : Int32) (o93_4 : Option Value), zJ N [] M0 M → ((0 : Int) ≤ v93_3.toInt) → (v93_3.toInt ≤ 12) → 84 * (12 - v93_3.toInt) + 159 < (n : Int) → ZW X (d + 2) 9 false (some .boolean) cX9_isImage (zRI N [] M0 (0) (1) (fun _ _ => True)) (93, [some (.ref 386), some (.int u93_1), some (.int u93_2), some (.int v93_3), o93_4], [], M)) ∧
      (∀ (M : zM) (u119_1 : Int32) (u119_2 : Int32) (v119_3 : Int32) (v119_4 : Int32), zJ N [] M0 M → ((0 : Int) ≤ v119_3.toInt) → (v119_3.toInt ≤ 11) → ((0 : Int) ≤ v119_4.toInt) → (v119_4.toInt ≤ 11) → 84 * (12 - v119_3.toInt) + 6 * (11 - v119_4.toInt) + 80 < (n : Int) → ZW X (d + 2) 9 false (some .boolean) cX9_isImage (zRI N [] M0 (0) (1) (fun _ _ => True)) (119, [some (.ref 386), some (.int u119_1), some (.int u119_2), some (.int v119_3), some (.int v119_4)], [], M)) ∧
      (∀ (M : zM) (u167_1 : Int32) (u167_2 : Int32) (v167_3 : Int32) (o167_4 : Option Value), zJ N [] M0 M → ((0 : Int) ≤ v167_3.toInt) → (v167_3.toInt ≤ 11) → 6 * (11 - v167_3.toInt) + 1 < (n : Int) → ZW X (d + 2) 9 false (some .boolean) cX9_isImage (zRI N [] M0 (0) (1) (fun _ _ => True)) (167, [some (.ref 386), some (.int u167_1), some (.int u167_2), some (.int v167_3), o167_4], [], M)) := by
    intro n
    induction n with
    | zero =>
      exact ⟨(fun M v27_1 v27_2 v27_3 o27_4 hJ v27_10 v27_11 v27_20 v27_21 v27_30 v27_31 hn => absurd hn (by omega)), (fun M u93_1 u93_2 v93_3 o93_4 hJ v93_30 v93_31 hn => absurd hn (by omega)), (fun M u119_1 u119_2 v119_3 v119_4 hJ v119_30 v119_31 v119_40 v119_41 hn => absurd hn (by omega)), (fun M u167_1 u167_2 v167_3 o167_4 hJ v167_30 v167_31 hn => absurd hn (by omega))⟩
    | succ n ih =>
      obtain ⟨ih27, ih93, ih119, ih167⟩ := ih
      refine ⟨?_, ?_, ?_, ?_⟩
      · intro M v27_1 v27_2 v27_3 o27_4 hJ v27_10 v27_11 v27_20 v27_21 v27_30 v27_31 hn
        refine w_lo dX9_isImage_27 rfl rfl rfl rfl ?_
        refine w_lo dX9_isImage_28 rfl rfl rfl rfl ?_
        refine w_ic dX9_isImage_29 zi_1 ?_
        refine w_sub dX9_isImage_30 (by have := zt_1; omega) ?_
        intro x1 h2
        have := zt_1
        rcases zcut v27_3.toInt x1.toInt with h3 | h3
        · skip
          refine w_cge_f dX9_isImage_31 (t := 55) rfl (by omega) ?_
          refine w_ic dX9_isImage_34 zi_5 ?_
          refine w_lo dX9_isImage_35 rfl rfl rfl rfl ?_
          refine w_mulc dX9_isImage_36 zt_5 (by have := zt_5; omega) ?_
          intro x4 h5
          have := zt_5
          refine w_lo dX9_isImage_37 rfl rfl rfl rfl ?_
          refine w_gf dX9_isImage_38 rfl hJ.1.1 zs_386 (zr_386_0 hJ.1) ?_
          refine w_lo dX9_isImage_41 rfl rfl rfl rfl ?_
          refine w_iai dX9_isImage_42 hJ.1 zs_387 (by omega) (by omega) zu_387 ?_
          intro x9 f6 h7 h8
          refine w_add dX9_isImage_43 (by omega) ?_
          intro x10 h11
          refine w_si dX9_isImage_44 (c := 251) (by decide) ?_
          refine w_remP dX9_isImage_47 (by omega) (by have := zt_251; omega) ?_
          intro x12 h13 h14 h15
          have := zt_251
          refine w_lo (ml' := [some (.ref 386), some (.int v27_1), some (.int x12), some (.int v27_3), o27_4]) dX9_isImage_48 rfl rfl rfl rfl ?_
          refine w_inc (kk := 3) dX9_isImage_49 rfl (m := 1) (by decide) (by omega) ?_
          intro x16 h17
          refine ⟨_, rfl, ?_⟩
          show ZW _ _ _ _ _ _ _ (52, [some (.ref 386), some (.int v27_1), some (.int x12), some (.int x16), o27_4], [], M)
          refine w_gt dX9_isImage_52 (t := 27) rfl ?_
          exact ih27 M v27_1 x12 x16 o27_4 hJ (by omega) (by omega) (by omega) (by omega) (by omega) (by omega) (by omega)
        · skip
          refine w_cge_t dX9_isImage_31 (t := 55) rfl (by omega) ?_
          refine w_lo dX9_isImage_55 rfl rfl rfl rfl ?_
          refine w_gf dX9_isImage_56 rfl hJ.1.1 zs_386 (zr_386_0 hJ.1) ?_
          refine w_lo dX9_isImage_59 rfl rfl rfl rfl ?_
          refine w_ic dX9_isImage_60 zi_1 ?_
          refine w_sub dX9_isImage_61 (by have := zt_1; omega) ?_
          intro x18 h19
          have := zt_1
          refine w_iai dX9_isImage_62 hJ.1 zs_387 (by omega) (by omega) zu_387 ?_
          intro x23 f20 h21 h22
          refine w_lo dX9_isImage_63 rfl rfl rfl rfl ?_
          rcases Int.decEq x23.toInt v27_2.toInt with h24 | h24
          · skip
            refine w_cne_t dX9_isImage_64 (t := 89) rfl (by omega) ?_
            refine w_ic dX9_isImage_89 zi_0 ?_
            refine w_en dX9_isImage_90 rfl ?_
            exact ⟨_, _, rfl, (by have := zt_0; omega), (by have := zt_0; omega), hJ, trivial⟩
          · skip
            refine w_cne_f dX9_isImage_64 (t := 89) rfl (by omega) ?_
            refine w_lo dX9_isImage_67 rfl rfl rfl rfl ?_
            refine w_gf dX9_isImage_68 rfl hJ.1.1 zs_386 (zr_386_0 hJ.1) ?_
            refine w_ic dX9_isImage_71 zi_0 ?_
            refine w_iai dX9_isImage_72 hJ.1 zs_387 (by have := zt_0; omega) (by have := zt_0; omega) zu_387 ?_
            intro x28 f25 h26 h27
            refine w_bi dX9_isImage_73 (c := 8) (by decide) ?_
            refine w_puI dX9_isImage_75 rfl rfl ?_
            intro x29
            refine w_lo dX9_isImage_76 rfl rfl rfl rfl ?_
            refine w_gf dX9_isImage_77 rfl hJ.1.1 zs_386 (zr_386_0 hJ.1) ?_
            refine w_ic dX9_isImage_80 zi_1 ?_
            refine w_iai dX9_isImage_81 hJ.1 zs_387 (by have := zt_1; omega) (by have := zt_1; omega) zu_387 ?_
            intro x33 f30 h31 h32
            refine w_puI dX9_isImage_82 rfl rfl ?_
            intro x34
            refine w_si dX9_isImage_83 (c := 999) (by decide) ?_
            rcases zcut (999 : Int) x34.toInt with h35 | h35
            · skip
              refine w_cle_f dX9_isImage_86 (t := 91) rfl (by have := zt_999; omega) ?_
              refine w_ic dX9_isImage_89 zi_0 ?_
              refine w_en dX9_isImage_90 rfl ?_
              exact ⟨_, _, rfl, (by have := zt_0; omega), (by have := zt_0; omega), hJ, trivial⟩
            · skip
              refine w_cle_t dX9_isImage_86 (t := 91) rfl (by have := zt_999; omega) ?_
              refine w_ic dX9_isImage_91 zi_0 ?_
              refine w_lo (ml' := [some (.ref 386), some (.int v27_1), some (.int v27_2), some (.int 0), o27_4]) dX9_isImage_92 rfl rfl rfl rfl ?_
              exact ih93 M v27_1 v27_2 0 o27_4 hJ (by have := zt_0; omega) (by have := zt_0; omega) (by have := zt_0; omega)
      · intro M u93_1 u93_2 v93_3 o93_4 hJ v93_30 v93_31 hn
        refine w_lo dX9_isImage_93 rfl rfl rfl rfl ?_
        refine w_lo dX9_isImage_94 rfl rfl rfl rfl ?_
        refine w_iv dX9_isImage_95 rfl rfl (As := []) rfl rfl hJ.1.1 zs_386 (Nat.le_of_ble_eq_true rfl) ?_
        refine ZV.of (ini := false) rfl (Nat.le_of_ble_eq_true rfl) (by decide +kernel) ?_
        show ZW _ _ _ _ _ _ _ (0, [some (.ref 386)], [], M)
        refine w_lo dX9_many_0 rfl rfl rfl rfl ?_
        refine w_gf dX9_many_1 rfl hJ.1.1 zs_386 (zr_386_13 hJ.1) ?_
        refine w_lo dX9_many_4 rfl rfl rfl rfl ?_
        refine w_gfi dX9_many_5 rfl hJ.1 zs_386 (Nat.le_of_ble_eq_true rfl) zo_386_12 ?_
        intro x36 f37 h38 h39
        refine w_iai dX9_many_8 hJ.1 zs_388 (by omega) (by omega) zu_388 ?_
        intro x43 f40 h41 h42
        refine w_eni dX9_many_9 rfl rfl ?_
        show ZW _ _ _ _ _ _ _ (98, [some (.ref 386), some (.int u93_1), some (.int u93_2), some (.int v93_3), o93_4], [.int x43, .int v93_3], M)
        rcases zcut v93_3.toInt x43.toInt with h44 | h44
        · skip
          refine w_cge_f dX9_isImage_98 (t := 165) rfl (by omega) ?_
          refine w_lo dX9_isImage_101 rfl rfl rfl rfl ?_
          refine w_ic dX9_isImage_102 zi_2 ?_
          refine w_bi dX9_isImage_103 (c := 7) (by decide) ?_
          refine w_lo dX9_isImage_105 rfl rfl rfl rfl ?_
          refine w_mulc dX9_isImage_106 zt_7 (by have := zt_7; omega) ?_
          intro x45 h46
          have := zt_7
          refine w_add dX9_isImage_107 (by have := zt_2; omega) ?_
          intro x47 h48
          have := zt_2
          refine w_iv dX9_isImage_108 rfl rfl (As := [.int x47]) rfl rfl hJ.1.1 zs_386 (Nat.le_of_ble_eq_true rfl) ?_
          refine ZV.imp (k_2429 x47 (by omega) (by omega) hN hJ.1) ?_
          rintro _ ⟨x52, M49, rfl, h53, h54, hJ50, hq51⟩
          have hJ55 := zJ_trans hJ hJ50 zSub_nil
          show ZW _ _ _ _ _ _ _ (111, [some (.ref 386), some (.int u93_1), some (.int u93_2), some (.int v93_3), o93_4], [.int x52], M49)
          rcases Int.decEq x52.toInt (0 : Int) with h56 | h56
          · skip
            refine w_ine_t dX9_isImage_111 (t := 116) rfl (by omega) ?_
            refine w_ic dX9_isImage_116 zi_0 ?_
            refine w_lo (ml' := [some (.ref 386), some (.int u93_1), some (.int u93_2), some (.int v93_3), some (.int 0)]) dX9_isImage_117 rfl rfl rfl rfl ?_
            exact ih119 M49 u93_1 u93_2 v93_3 0 hJ55 (by omega) (by omega) (by have := zt_0; omega) (by have := zt_0; omega) (by have := zt_0; omega)
          · skip
            refine w_ine_f dX9_isImage_111 (t := 116) rfl (by omega) ?_
            refine w_ic dX9_isImage_114 zi_0 ?_
            refine w_en dX9_isImage_115 rfl ?_
            exact ⟨_, _, rfl, (by have := zt_0; omega), (by have := zt_0; omega), hJ55, trivial⟩
        · skip
          refine w_cge_t dX9_isImage_98 (t := 165) rfl (by omega) ?_
          refine w_ic dX9_isImage_165 zi_0 ?_
          refine w_lo (ml' := [some (.ref 386), some (.int u93_1), some (.int u93_2), some (.int 0), o93_4]) dX9_isImage_166 rfl rfl rfl rfl ?_
          exact ih167 M u93_1 u93_2 0 o93_4 hJ (by have := zt_0; omega) (by have := zt_0; omega) (by have := zt_0; omega)
      · intro M u119_1 u119_2 v119_3 v119_4 hJ v119_30 v119_31 v119_40 v119_41 hn
        refine w_lo dX9_isImage_119 rfl rfl rfl rfl ?_
        refine w_lo dX9_isImage_121 rfl rfl rfl rfl ?_
        rcases zcut v119_4.toInt v119_3.toInt with h57 | h57
        · skip
          refine w_cge_f dX9_isImage_122 (t := 159) rfl (by omega) ?_
          refine w_lo dX9_isImage_125 rfl rfl rfl rfl ?_
          refine w_gf dX9_isImage_126 rfl hJ.1.1 zs_386 (zr_386_0 hJ.1) ?_
          refine w_ic dX9_isImage_129 zi_2 ?_
          refine w_bi dX9_isImage_130 (c := 7) (by decide) ?_
          refine w_lo dX9_isImage_132 rfl rfl rfl rfl ?_
          refine w_mulc dX9_isImage_134 zt_7 (by have := zt_7; omega) ?_
          intro x58 h59
          have := zt_7
          refine w_add dX9_isImage_135 (by have := zt_2; omega) ?_
          intro x60 h61
          have := zt_2
          refine w_iai dX9_isImage_136 hJ.1 zs_387 (by omega) (by omega) zu_387 ?_
          intro x65 f62 h63 h64
          refine w_lo dX9_isImage_137 rfl rfl rfl rfl ?_
          refine w_gf dX9_isImage_138 rfl hJ.1.1 zs_386 (zr_386_0 hJ.1) ?_
          refine w_ic dX9_isImage_141 zi_2 ?_
          refine w_bi dX9_isImage_142 (c := 7) (by decide) ?_
          refine w_lo dX9_isImage_144 rfl rfl rfl rfl ?_
          refine w_mulc dX9_isImage_145 zt_7 (by have := zt_7; omega) ?_
          intro x66 h67
          have := zt_7
          refine w_add dX9_isImage_146 (by have := zt_2; omega) ?_
          intro x68 h69
          have := zt_2
          refine w_iai dX9_isImage_147 hJ.1 zs_387 (by omega) (by omega) zu_387 ?_
          intro x73 f70 h71 h72
          rcases Int.decEq x65.toInt x73.toInt with h74 | h74
          · skip
            refine w_cne_t dX9_isImage_148 (t := 153) rfl (by omega) ?_
            refine w_inc (kk := 4) dX9_isImage_153 rfl (m := 1) (by decide) (by omega) ?_
            intro x75 h76
            refine ⟨_, rfl, ?_⟩
            show ZW _ _ _ _ _ _ _ (156, [some (.ref 386), some (.int u119_1), some (.int u119_2), some (.int v119_3), some (.int x75)], [], M)
            refine w_gt dX9_isImage_156 (t := 119) rfl ?_
            exact ih119 M u119_1 u119_2 v119_3 x75 hJ (by omega) (by omega) (by omega) (by omega) (by omega)
          · skip
            refine w_cne_f dX9_isImage_148 (t := 153) rfl (by omega) ?_
            refine w_ic dX9_isImage_151 zi_0 ?_
            refine w_en dX9_isImage_152 rfl ?_
            exact ⟨_, _, rfl, (by have := zt_0; omega), (by have := zt_0; omega), hJ, trivial⟩
        · skip
          refine w_cge_t dX9_isImage_122 (t := 159) rfl (by omega) ?_
          refine w_inc (kk := 3) dX9_isImage_159 rfl (m := 1) (by decide) (by omega) ?_
          intro x77 h78
          refine ⟨_, rfl, ?_⟩
          show ZW _ _ _ _ _ _ _ (162, [some (.ref 386), some (.int u119_1), some (.int u119_2), some (.int x77), some (.int v119_4)], [], M)
          refine w_gt dX9_isImage_162 (t := 93) rfl ?_
          exact ih93 M u119_1 u119_2 x77 (some (.int v119_4)) hJ (by omega) (by omega) (by omega)
      · intro M u167_1 u167_2 v167_3 o167_4 hJ v167_30 v167_31 hn
        refine w_lo dX9_isImage_167 rfl rfl rfl rfl ?_
        refine w_lo dX9_isImage_168 rfl rfl rfl rfl ?_
        refine w_iv dX9_isImage_169 rfl rfl (As := []) rfl rfl hJ.1.1 zs_386 (Nat.le_of_ble_eq_true rfl) ?_
        refine ZV.imp (k_2428 hN hJ.1) ?_
        rintro _ ⟨x82, M79, rfl, h83, h84, hJ80, hq81⟩
        have hJ85 := zJ_trans hJ hJ80 zSub_nil
        show ZW _ _ _ _ _ _ _ (172, [some (.ref 386), some (.int u167_1), some (.int u167_2), some (.int v167_3), o167_4], [.int x82, .int v167_3], M79)
        rcases zcut v167_3.toInt x82.toInt with h86 | h86
        · skip
          refine w_cge_f dX9_isImage_172 (t := 223) rfl (by omega) ?_
          refine w_ic dX9_isImage_175 zi_2 ?_
          refine w_bi dX9_isImage_176 (c := 7) (by decide) ?_
          refine w_lo dX9_isImage_178 rfl rfl rfl rfl ?_
          refine w_iv dX9_isImage_179 rfl rfl (As := []) rfl rfl hJ85.1.1 zs_386 (Nat.le_of_ble_eq_true rfl) ?_
          refine ZV.of (ini := false) rfl (Nat.le_of_ble_eq_true rfl) (by decide +kernel) ?_
          show ZW _ _ _ _ _ _ _ (0, [some (.ref 386)], [], M79)
          refine w_lo dX9_many_0 rfl rfl rfl rfl ?_
          refine w_gf dX9_many_1 rfl hJ85.1.1 zs_386 (zr_386_13 hJ85.1) ?_
          refine w_lo dX9_many_4 rfl rfl rfl rfl ?_
          refine w_gfi dX9_many_5 rfl hJ85.1 zs_386 (Nat.le_of_ble_eq_true rfl) zo_386_12 ?_
          intro x87 f88 h89 h90
          refine w_iai dX9_many_8 hJ85.1 zs_388 (by omega) (by omega) zu_388 ?_
          intro x94 f91 h92 h93
          refine w_eni dX9_many_9 rfl rfl ?_
          show ZW _ _ _ _ _ _ _ (182, [some (.ref 386), some (.int u167_1), some (.int u167_2), some (.int v167_3), o167_4], [.int x94, .int 7, .int 2], M79)
          refine w_mulc dX9_isImage_182 zt_7 (by have := zt_7; omega) ?_
          intro x95 h96
          have := zt_7
          refine w_add dX9_isImage_183 (by have := zt_2; omega) ?_
          intro x97 h98
          have := zt_2
          refine w_ic dX9_isImage_184 zi_2 ?_
          refine w_lo dX9_isImage_185 rfl rfl rfl rfl ?_
          refine w_mulc dX9_isImage_186 zt_2 (by have := zt_2; omega) ?_
          intro x99 h100
          have := zt_2
          refine w_add dX9_isImage_187 (by omega) ?_
          intro x101 h102
          refine w_lo (ml' := [some (.ref 386), some (.int u167_1), some (.int u167_2), some (.int v167_3), some (.int x101)]) dX9_isImage_188 rfl rfl rfl rfl ?_
          refine w_lo dX9_isImage_190 rfl rfl rfl rfl ?_
          refine w_gf dX9_isImage_191 rfl hJ85.1.1 zs_386 (zr_386_0 hJ85.1) ?_
          refine w_lo dX9_isImage_194 rfl rfl rfl rfl ?_
          refine w_iai dX9_isImage_196 hJ85.1 zs_387 (by omega) (by omega) zu_387 ?_
          intro x106 f103 h104 h105
          refine w_ic dX9_isImage_197 zi_1 ?_
          rcases zcut (1 : Int) x106.toInt with h107 | h107
          · skip
            refine w_cgt_t dX9_isImage_198 (t := 215) rfl (by have := zt_1; omega) ?_
            refine w_ic dX9_isImage_215 zi_0 ?_
            refine w_en dX9_isImage_216 rfl ?_
            exact ⟨_, _, rfl, (by have := zt_0; omega), (by have := zt_0; omega), hJ85, trivial⟩
          · skip
            refine w_cgt_f dX9_isImage_198 (t := 215) rfl (by have := zt_1; omega) ?_
            refine w_lo dX9_isImage_201 rfl rfl rfl rfl ?_
            refine w_gf dX9_isImage_202 rfl hJ85.1.1 zs_386 (zr_386_0 hJ85.1) ?_
            refine w_lo dX9_isImage_205 rfl rfl rfl rfl ?_
            refine w_ic dX9_isImage_207 zi_1 ?_
            refine w_add dX9_isImage_208 (by have := zt_1; omega) ?_
            intro x108 h109
            have := zt_1
            refine w_iai dX9_isImage_209 hJ85.1 zs_387 (by omega) (by omega) zu_387 ?_
            intro x113 f110 h111 h112
            refine w_bi dX9_isImage_210 (c := 99) (by decide) ?_
            rcases zcut (99 : Int) x113.toInt with h114 | h114
            · skip
              refine w_cle_f dX9_isImage_212 (t := 217) rfl (by have := zt_99; omega) ?_
              refine w_ic dX9_isImage_215 zi_0 ?_
              refine w_en dX9_isImage_216 rfl ?_
              exact ⟨_, _, rfl, (by have := zt_0; omega), (by have := zt_0; omega), hJ85, trivial⟩
            · skip
              refine w_cle_t dX9_isImage_212 (t := 217) rfl (by have := zt_99; omega) ?_
              refine w_inc (kk := 3) dX9_isImage_217 rfl (m := 1) (by decide) (by omega) ?_
              intro x115 h116
              refine ⟨_, rfl, ?_⟩
              show ZW _ _ _ _ _ _ _ (220, [some (.ref 386), some (.int u167_1), some (.int u167_2), some (.int x115), some (.int x101)], [], M79)
              refine w_gt dX9_isImage_220 (t := 167) rfl ?_
              exact ih167 M79 u167_1 u167_2 x115 (some (.int x101)) hJ85 (by omega) (by omega) (by omega)
        · skip
          refine w_cge_t dX9_isImage_172 (t := 223) rfl (by omega) ?_
          refine w_ic dX9_isImage_223 zi_1 ?_
          refine w_en dX9_isImage_224 rfl ?_
          exact ⟨_, _, rfl, (by have := zt_1; omega), (by have := zt_1; omega), hJ85, trivial⟩
  obtain ⟨ih27, ih93, ih119, ih167⟩ := main 1923
  show ZW _ _ _ _ _ _ _ (0, [some (.ref 386), some (.int a0), none, none, none], [], M0)
  refine w_lo dX9_isImage_0 rfl rfl rfl rfl ?_
  refine w_ic dX9_isImage_1 zi_3 ?_
  refine w_bi dX9_isImage_2 (c := 7) (by decide) ?_
  refine w_lo dX9_isImage_4 rfl rfl rfl rfl ?_
  refine w_iv dX9_isImage_5 rfl rfl (As := []) rfl rfl hJ0.1.1 zs_386 (Nat.le_of_ble_eq_true rfl) ?_
  refine ZV.of (ini := false) rfl (Nat.le_of_ble_eq_true rfl) (by decide +kernel) ?_
  show ZW _ _ _ _ _ _ _ (0, [some (.ref 386)], [], M0)
  refine w_lo dX9_many_0 rfl rfl rfl rfl ?_
  refine w_gf dX9_many_1 rfl hJ0.1.1 zs_386 (zr_386_13 hJ0.1) ?_
  refine w_lo dX9_many_4 rfl rfl rfl rfl ?_
  refine w_gfi dX9_many_5 rfl hJ0.1 zs_386 (Nat.le_of_ble_eq_true rfl) zo_386_12 ?_
  intro x117 f118 h119 h120
  refine w_iai dX9_many_8 hJ0.1 zs_388 (by omega) (by omega) zu_388 ?_
  intro x124 f121 h122 h123
  refine w_eni dX9_many_9 rfl rfl ?_
  show ZW _ _ _ _ _ _ _ (8, [some (.ref 386), some (.int a0), none, none, none], [.int x124, .int 7, .int 3, .int a0], M0)
  refine w_mulc dX9_isImage_8 zt_7 (by have := zt_7; omega) ?_
  intro x125 h126
  have := zt_7
  refine w_add dX9_isImage_9 (by have := zt_3; omega) ?_
  intro x127 h128
  have := zt_3
  refine w_ic dX9_isImage_10 zi_2 ?_
  refine w_lo dX9_isImage_11 rfl rfl rfl rfl ?_
  refine w_iv dX9_isImage_12 rfl rfl (As := []) rfl rfl hJ0.1.1 zs_386 (Nat.le_of_ble_eq_true rfl) ?_
  refine ZV.imp (k_2428 hN hJ0.1) ?_
  rintro _ ⟨x132, M129, rfl, h133, h134, hJ130, hq131⟩
  have hJ135 := zJ_trans hJ0 hJ130 zSub_nil
  show ZW _ _ _ _ _ _ _ (15, [some (.ref 386), some (.int a0), none, none, none], [.int x132, .int 2, .int x127, .int a0], M129)
  refine w_mulc dX9_isImage_15 zt_2 (by have := zt_2; omega) ?_
  intro x136 h137
  have := zt_2
  refine w_add dX9_isImage_16 (by omega) ?_
  intro x138 h139
  rcases Int.decEq a0.toInt x138.toInt with h140 | h140
  · skip
    refine w_ceq_f dX9_isImage_17 (t := 22) rfl (by omega) ?_
    refine w_ic dX9_isImage_20 zi_0 ?_
    refine w_en dX9_isImage_21 rfl ?_
    exact ⟨_, _, rfl, (by have := zt_0; omega), (by have := zt_0; omega), hJ135, trivial⟩
  · skip
    refine w_ceq_t dX9_isImage_17 (t := 22) rfl (by omega) ?_
    refine w_bi dX9_isImage_22 (c := 89) (by decide) ?_
    refine w_lo (ml' := [some (.ref 386), some (.int a0), some (.int 89), none, none]) dX9_isImage_24 rfl rfl rfl rfl ?_
    refine w_ic dX9_isImage_25 zi_0 ?_
    refine w_lo (ml' := [some (.ref 386), some (.int a0), some (.int 89), some (.int 0), none]) dX9_isImage_26 rfl rfl rfl rfl ?_
    exact ih27 M129 a0 89 0 none hJ135 (by omega) (by omega) (by have := zt_89; omega) (by have := zt_89; omega) (by have := zt_0; omega) (by have := zt_0; omega) (by have := zt_89; have := zt_0; omega)
set_option maxRecDepth 100000 in
theorem k_2426 {X : List Int32} {d N : Nat} {M0 : zM}  (hN : N ≤ 600) (hB0 : zB N M0) : ZV X (d + 4) 2426 [.ref 386] M0 (zRI N [(386, 387, 1), (415, 416, 1000), (418, 432, 1000), (386, 387, 65), (386, 387, 68)] M0 (0) (1) (fun _ _ => True)) := by
  have hJ0 : zJ N [(386, 387, 1), (415, 416, 1000), (418, 432, 1000), (386, 387, 65), (386, 387, 68)] M0 M0 := zJ_refl hB0
  refine ZV.of (ini := false) rfl (Nat.le_of_ble_eq_true rfl) (by decide +kernel) ?_
  have main : ∀ n : Nat,
      (∀ (M : zM) (u56_1 : Int32) (v56_2 : Int32) (o56_3 : Option Value) (o56_4 : Option Value), zJ N [(386, 387, 1), (415, 416, 1000), (418, 432, 1000), (386, 387, 65), (386, 387, 68)] M0 M → ((0 : Int) ≤ v56_2.toInt) → (v56_2.toInt ≤ 12) → 4 * (12 - v56_2.toInt) + 54 < (n : Int) → ZW X (d + 3) 9 false (some .boolean) cX9_on (zRI N [(386, 387, 1), (415, 416, 1000), (418, 432, 1000), (386, 387, 65), (386, 387, 68)] M0 (0) (1) (fun _ _ => True)) (56, [some (.ref 386), some (.int u56_1), some (.int v56_2), o56_3, o56_4], [], M)) ∧
      (∀ (M : zM) (u209_1 : Int32) (v209_2 : Int32) (o209_3 : Option Value) (o209_4 : Option Value), zJ N [(386, 387, 1), (415, 416, 1000), (418, 432, 1000), (386, 387, 65), (386, 387, 68)] M0 M → ((0 : Int) ≤ v209_2.toInt) → (v209_2.toInt ≤ 11) → 4 * (11 - v209_2.toInt) + 1 < (n : Int) → ZW X (d + 3) 9 false (some .boolean) cX9_on (zRI N [(386, 387, 1), (415, 416, 1000), (418, 432, 1000), (386, 387, 65), (386, 387, 68)] M0 (0) (1) (fun _ _ => True)) (209, [some (.ref 386), some (.int u209_1), some (.int v209_2), o209_3, o209_4], [], M)) := by
    intro n
    induction n with
    | zero =>
      exact ⟨(fun M u56_1 v56_2 o56_3 o56_4 hJ v56_20 v56_21 hn => absurd hn (by omega)), (fun M u209_1 v209_2 o209_3 o209_4 hJ v209_20 v209_21 hn => absurd hn (by omega))⟩
    | succ n ih =>
      obtain ⟨ih56, ih209⟩ := ih
      refine ⟨?_, ?_⟩
      · intro M u56_1 v56_2 o56_3 o56_4 hJ v56_20 v56_21 hn
        refine w_lo dX9_on_56 rfl rfl rfl rfl ?_
        refine w_lo dX9_on_57 rfl rfl rfl rfl ?_
        refine w_iv dX9_on_58 rfl rfl (As := []) rfl rfl hJ.1.1 zs_386 (Nat.le_of_ble_eq_true rfl) ?_
        refine ZV.of (ini := false) rfl (Nat.le_of_ble_eq_true rfl) (by decide +kernel) ?_
        show ZW _ _ _ _ _ _ _ (0, [some (.ref 386)], [], M)
        refine w_lo dX9_many_0 rfl rfl rfl rfl ?_
        refine w_gf dX9_many_1 rfl hJ.1.1 zs_386 (zr_386_13 hJ.1) ?_
        refine w_lo dX9_many_4 rfl rfl rfl rfl ?_
        refine w_gfi dX9_many_5 rfl hJ.1 zs_386 (Nat.le_of_ble_eq_true rfl) zo_386_12 ?_
        intro x1 f2 h3 h4
        refine w_iai dX9_many_8 hJ.1 zs_388 (by omega) (by omega) zu_388 ?_
        intro x8 f5 h6 h7
        refine w_eni dX9_many_9 rfl rfl ?_
        show ZW _ _ _ _ _ _ _ (61, [some (.ref 386), some (.int u56_1), some (.int v56_2), o56_3, o56_4], [.int x8, .int v56_2], M)
        rcases zcut v56_2.toInt x8.toInt with h9 | h9
        · skip
          refine w_cge_f dX9_on_61 (t := 207) rfl (by omega) ?_
          refine w_ic dX9_on_64 zi_2 ?_
          refine w_bi dX9_on_65 (c := 7) (by decide) ?_
          refine w_lo dX9_on_67 rfl rfl rfl rfl ?_
          refine w_mulc dX9_on_68 zt_7 (by have := zt_7; omega) ?_
          intro x10 h11
          have := zt_7
          refine w_add dX9_on_69 (by have := zt_2; omega) ?_
          intro x12 h13
          have := zt_2
          refine w_lo (ml' := [some (.ref 386), some (.int u56_1), some (.int v56_2), some (.int x12), o56_4]) dX9_on_70 rfl rfl rfl rfl ?_
          refine w_lo dX9_on_71 rfl rfl rfl rfl ?_
          refine w_gf dX9_on_72 rfl hJ.1.1 zs_386 (zr_386_0 hJ.1) ?_
          refine w_lo dX9_on_75 rfl rfl rfl rfl ?_
          refine w_iai dX9_on_76 hJ.1 zs_387 (by omega) (by omega) zu_387 ?_
          intro x17 f14 h15 h16
          refine w_lo (ml' := [some (.ref 386), some (.int u56_1), some (.int v56_2), some (.int x12), some (.int x17)]) dX9_on_77 rfl rfl rfl rfl ?_
          refine w_lo dX9_on_79 rfl rfl rfl rfl ?_
          refine w_lo dX9_on_80 rfl rfl rfl rfl ?_
          refine w_iv dX9_on_82 rfl rfl (As := [.int x17]) rfl rfl hJ.1.1 zs_386 (Nat.le_of_ble_eq_true rfl) ?_
          refine ZV.imp (k_2342 x17 (by omega) (by omega) hN hJ.1) ?_
          rintro _ ⟨M18, rfl, hJ19, hq20⟩
          have hJ21 := zJ_trans hJ hJ19 (zSub_cons (fun _ _ h h' hk => zIR_s (zIR_s (zIR_a (by omega) (by omega)))) (zSub_cons (fun _ _ h h' hk => zIR_s (zIR_s (zIR_a (by omega) (by omega)))) zSub_nil))
          show ZW _ _ _ _ _ _ _ (85, [some (.ref 386), some (.int u56_1), some (.int v56_2), some (.int x12), some (.int x17)], [], M18)
          refine w_lo dX9_on_85 rfl rfl rfl rfl ?_
          refine w_gf dX9_on_86 rfl hJ21.1.1 zs_386 (zr_386_50 hJ21.1) ?_
          refine w_lo dX9_on_89 rfl rfl rfl rfl ?_
          refine w_lo dX9_on_90 rfl rfl rfl rfl ?_
          refine w_isi dX9_on_92 hJ21 zs_419 (by omega) (by omega) zu_419 (by omega) (by omega) (zIR_s (zIR_s (zIR_a (by omega) (by omega)))) ?_
          intro M22 hJ23 f24 hn25
          refine w_lo dX9_on_93 rfl rfl rfl rfl ?_
          refine w_gf dX9_on_94 rfl hJ23.1.1 zs_386 (zr_386_51 hJ23.1) ?_
          refine w_lo dX9_on_97 rfl rfl rfl rfl ?_
          refine w_lo dX9_on_99 rfl rfl rfl rfl ?_
          refine w_gf dX9_on_100 rfl hJ23.1.1 zs_386 (zr_386_0 hJ23.1) ?_
          refine w_lo dX9_on_103 rfl rfl rfl rfl ?_
          refine w_ic dX9_on_104 zi_1 ?_
          refine w_add dX9_on_105 (by have := zt_1; omega) ?_
          intro x26 h27
          have := zt_1
          refine w_iai dX9_on_106 hJ23.1 zs_387 (by omega) (by omega) zu_387 ?_
          intro x31 f28 h29 h30
          refine w_isi dX9_on_107 hJ23 zs_420 (by omega) (by omega) zu_420 (by omega) (by omega) (zIR_s (zIR_s (zIR_a (by omega) (by omega)))) ?_
          intro M32 hJ33 f34 hn35
          refine w_lo dX9_on_108 rfl rfl rfl rfl ?_
          refine w_gf dX9_on_109 rfl hJ33.1.1 zs_386 (zr_386_52 hJ33.1) ?_
          refine w_lo dX9_on_112 rfl rfl rfl rfl ?_
          refine w_lo dX9_on_114 rfl rfl rfl rfl ?_
          refine w_gf dX9_on_115 rfl hJ33.1.1 zs_386 (zr_386_0 hJ33.1) ?_
          refine w_lo dX9_on_118 rfl rfl rfl rfl ?_
          refine w_ic dX9_on_119 zi_2 ?_
          refine w_add dX9_on_120 (by have := zt_2; omega) ?_
          intro x36 h37
          have := zt_2
          refine w_iai dX9_on_121 hJ33.1 zs_387 (by omega) (by omega) zu_387 ?_
          intro x41 f38 h39 h40
          refine w_ic dX9_on_122 zi_1 ?_
          refine w_sub dX9_on_123 (by have := zt_1; omega) ?_
          intro x42 h43
          have := zt_1
          refine w_isi dX9_on_124 hJ33 zs_421 (by omega) (by omega) zu_421 (by omega) (by omega) (zIR_s (zIR_s (zIR_a (by omega) (by omega)))) ?_
          intro M44 hJ45 f46 hn47
          refine w_lo dX9_on_125 rfl rfl rfl rfl ?_
          refine w_gf dX9_on_126 rfl hJ45.1.1 zs_386 (zr_386_53 hJ45.1) ?_
          refine w_lo dX9_on_129 rfl rfl rfl rfl ?_
          refine w_lo dX9_on_131 rfl rfl rfl rfl ?_
          refine w_gf dX9_on_132 rfl hJ45.1.1 zs_386 (zr_386_0 hJ45.1) ?_
          refine w_lo dX9_on_135 rfl rfl rfl rfl ?_
          refine w_ic dX9_on_136 zi_3 ?_
          refine w_add dX9_on_137 (by have := zt_3; omega) ?_
          intro x48 h49
          have := zt_3
          refine w_iai dX9_on_138 hJ45.1 zs_387 (by omega) (by omega) zu_387 ?_
          intro x53 f50 h51 h52
          refine w_isi dX9_on_139 hJ45 zs_422 (by omega) (by omega) zu_422 (zbot _) (ztop _) (zIR_s (zIR_s (zIR_a (by omega) (by omega)))) ?_
          intro M54 hJ55 f56 hn57
          refine w_lo dX9_on_140 rfl rfl rfl rfl ?_
          refine w_gf dX9_on_141 rfl hJ55.1.1 zs_386 (zr_386_54 hJ55.1) ?_
          refine w_lo dX9_on_144 rfl rfl rfl rfl ?_
          refine w_lo dX9_on_146 rfl rfl rfl rfl ?_
          refine w_gf dX9_on_147 rfl hJ55.1.1 zs_386 (zr_386_0 hJ55.1) ?_
          refine w_lo dX9_on_150 rfl rfl rfl rfl ?_
          refine w_ic dX9_on_151 zi_4 ?_
          refine w_add dX9_on_152 (by have := zt_4; omega) ?_
          intro x58 h59
          have := zt_4
          refine w_iai dX9_on_153 hJ55.1 zs_387 (by omega) (by omega) zu_387 ?_
          intro x63 f60 h61 h62
          refine w_ic dX9_on_154 zi_1 ?_
          refine w_sub dX9_on_155 (by have := zt_1; omega) ?_
          intro x64 h65
          have := zt_1
          refine w_isi dX9_on_156 hJ55 zs_423 (by omega) (by omega) zu_423 (by omega) (by omega) (zIR_s (zIR_s (zIR_a (by omega) (by omega)))) ?_
          intro M66 hJ67 f68 hn69
          refine w_lo dX9_on_157 rfl rfl rfl rfl ?_
          refine w_gf dX9_on_158 rfl hJ67.1.1 zs_386 (zr_386_57 hJ67.1) ?_
          refine w_lo dX9_on_161 rfl rfl rfl rfl ?_
          refine w_lo dX9_on_163 rfl rfl rfl rfl ?_
          refine w_gf dX9_on_164 rfl hJ67.1.1 zs_386 (zr_386_0 hJ67.1) ?_
          refine w_lo dX9_on_167 rfl rfl rfl rfl ?_
          refine w_ic dX9_on_168 zi_5 ?_
          refine w_add dX9_on_169 (by have := zt_5; omega) ?_
          intro x70 h71
          have := zt_5
          refine w_iai dX9_on_170 hJ67.1 zs_387 (by omega) (by omega) zu_387 ?_
          intro x75 f72 h73 h74
          refine w_bi dX9_on_171 (c := 8) (by decide) ?_
          refine w_puI dX9_on_173 rfl rfl ?_
          intro x76
          refine w_lo dX9_on_174 rfl rfl rfl rfl ?_
          refine w_gf dX9_on_175 rfl hJ67.1.1 zs_386 (zr_386_0 hJ67.1) ?_
          refine w_lo dX9_on_178 rfl rfl rfl rfl ?_
          refine w_bi dX9_on_179 (c := 6) (by decide) ?_
          refine w_add dX9_on_181 (by have := zt_6; omega) ?_
          intro x77 h78
          have := zt_6
          refine w_iai dX9_on_182 hJ67.1 zs_387 (by omega) (by omega) zu_387 ?_
          intro x82 f79 h80 h81
          refine w_puI dX9_on_183 rfl rfl ?_
          intro x83
          refine w_isi dX9_on_184 hJ67 zs_426 (by omega) (by omega) zu_426 (zbot _) (ztop _) (zIR_s (zIR_s (zIR_a (by omega) (by omega)))) ?_
          intro M84 hJ85 f86 hn87
          refine w_lo dX9_on_185 rfl rfl rfl rfl ?_
          refine w_gf dX9_on_186 rfl hJ85.1.1 zs_386 (zr_386_55 hJ85.1) ?_
          refine w_lo dX9_on_189 rfl rfl rfl rfl ?_
          refine w_ic dX9_on_191 zi_m1 ?_
          refine w_isi dX9_on_192 hJ85 zs_424 (by omega) (by omega) zu_424 (zbot _) (ztop _) (zIR_s (zIR_s (zIR_a (by omega) (by omega)))) ?_
          intro M88 hJ89 f90 hn91
          refine w_lo dX9_on_193 rfl rfl rfl rfl ?_
          refine w_gf dX9_on_194 rfl hJ89.1.1 zs_386 (zr_386_56 hJ89.1) ?_
          refine w_lo dX9_on_197 rfl rfl rfl rfl ?_
          refine w_ic dX9_on_199 zi_m1 ?_
          refine w_isi dX9_on_200 hJ89 zs_425 (by omega) (by omega) zu_425 (by have := zt_m1; omega) (by have := zt_m1; omega) (zIR_s (zIR_s (zIR_a (by omega) (by omega)))) ?_
          intro M92 hJ93 f94 hn95
          refine w_inc (kk := 2) dX9_on_201 rfl (m := 1) (by decide) (by omega) ?_
          intro x96 h97
          refine ⟨_, rfl, ?_⟩
          show ZW _ _ _ _ _ _ _ (204, [some (.ref 386), some (.int u56_1), some (.int x96), some (.int x12), some (.int x17)], [], M92)
          refine w_gt dX9_on_204 (t := 56) rfl ?_
          exact ih56 M92 u56_1 x96 (some (.int x12)) (some (.int x17)) hJ93 (by omega) (by omega) (by omega)
        · skip
          refine w_cge_t dX9_on_61 (t := 207) rfl (by omega) ?_
          refine w_ic dX9_on_207 zi_0 ?_
          refine w_lo (ml' := [some (.ref 386), some (.int u56_1), some (.int 0), o56_3, o56_4]) dX9_on_208 rfl rfl rfl rfl ?_
          exact ih209 M u56_1 0 o56_3 o56_4 hJ (by have := zt_0; omega) (by have := zt_0; omega) (by have := zt_0; omega)
      · intro M u209_1 v209_2 o209_3 o209_4 hJ v209_20 v209_21 hn
        refine w_lo dX9_on_209 rfl rfl rfl rfl ?_
        refine w_lo dX9_on_210 rfl rfl rfl rfl ?_
        refine w_iv dX9_on_211 rfl rfl (As := []) rfl rfl hJ.1.1 zs_386 (Nat.le_of_ble_eq_true rfl) ?_
        refine ZV.imp (k_2428 hN hJ.1) ?_
        rintro _ ⟨x101, M98, rfl, h102, h103, hJ99, hq100⟩
        have hJ104 := zJ_trans hJ hJ99 zSub_nil
        show ZW _ _ _ _ _ _ _ (214, [some (.ref 386), some (.int u209_1), some (.int v209_2), o209_3, o209_4], [.int x101, .int v209_2], M98)
        rcases zcut v209_2.toInt x101.toInt with h105 | h105
        · skip
          refine w_cge_f dX9_on_214 (t := 271) rfl (by omega) ?_
          refine w_lo dX9_on_217 rfl rfl rfl rfl ?_
          refine w_gf dX9_on_218 rfl hJ104.1.1 zs_386 (zr_386_60 hJ104.1) ?_
          refine w_lo dX9_on_221 rfl rfl rfl rfl ?_
          refine w_lo dX9_on_222 rfl rfl rfl rfl ?_
          refine w_gf dX9_on_223 rfl hJ104.1.1 zs_386 (zr_386_0 hJ104.1) ?_
          refine w_ic dX9_on_226 zi_2 ?_
          refine w_bi dX9_on_227 (c := 7) (by decide) ?_
          refine w_lo dX9_on_229 rfl rfl rfl rfl ?_
          refine w_iv dX9_on_230 rfl rfl (As := []) rfl rfl hJ104.1.1 zs_386 (Nat.le_of_ble_eq_true rfl) ?_
          refine ZV.of (ini := false) rfl (Nat.le_of_ble_eq_true rfl) (by decide +kernel) ?_
          show ZW _ _ _ _ _ _ _ (0, [some (.ref 386)], [], M98)
          refine w_lo dX9_many_0 rfl rfl rfl rfl ?_
          refine w_gf dX9_many_1 rfl hJ104.1.1 zs_386 (zr_386_13 hJ104.1) ?_
          refine w_lo dX9_many_4 rfl rfl rfl rfl ?_
          refine w_gfi dX9_many_5 rfl hJ104.1 zs_386 (Nat.le_of_ble_eq_true rfl) zo_386_12 ?_
          intro x106 f107 h108 h109
          refine w_iai dX9_many_8 hJ104.1 zs_388 (by omega) (by omega) zu_388 ?_
          intro x113 f110 h111 h112
          refine w_eni dX9_many_9 rfl rfl ?_
          show ZW _ _ _ _ _ _ _ (233, [some (.ref 386), some (.int u209_1), some (.int v209_2), o209_3, o209_4], [.int x113, .int 7, .int 2, .ref 387, .int v209_2, .ref 429], M98)
          refine w_mulc dX9_on_233 zt_7 (by have := zt_7; omega) ?_
          intro x114 h115
          have := zt_7
          refine w_add dX9_on_234 (by have := zt_2; omega) ?_
          intro x116 h117
          have := zt_2
          refine w_ic dX9_on_235 zi_2 ?_
          refine w_lo dX9_on_236 rfl rfl rfl rfl ?_
          refine w_mulc dX9_on_237 zt_2 (by have := zt_2; omega) ?_
          intro x118 h119
          have := zt_2
          refine w_add dX9_on_238 (by omega) ?_
          intro x120 h121
          refine w_iai dX9_on_239 hJ104.1 zs_387 (by omega) (by omega) zu_387 ?_
          intro x125 f122 h123 h124
          refine w_isi dX9_on_240 hJ104 zs_429 (by omega) (by omega) zu_429 (by omega) (by omega) (zIR_s (zIR_s (zIR_a (by omega) (by omega)))) ?_
          intro M126 hJ127 f128 hn129
          refine w_lo dX9_on_241 rfl rfl rfl rfl ?_
          refine w_gf dX9_on_242 rfl hJ127.1.1 zs_386 (zr_386_61 hJ127.1) ?_
          refine w_lo dX9_on_245 rfl rfl rfl rfl ?_
          refine w_lo dX9_on_246 rfl rfl rfl rfl ?_
          refine w_gf dX9_on_247 rfl hJ127.1.1 zs_386 (zr_386_0 hJ127.1) ?_
          refine w_ic dX9_on_250 zi_3 ?_
          refine w_bi dX9_on_251 (c := 7) (by decide) ?_
          refine w_lo dX9_on_253 rfl rfl rfl rfl ?_
          refine w_iv dX9_on_254 rfl rfl (As := []) rfl rfl hJ127.1.1 zs_386 (Nat.le_of_ble_eq_true rfl) ?_
          refine ZV.of (ini := false) rfl (Nat.le_of_ble_eq_true rfl) (by decide +kernel) ?_
          show ZW _ _ _ _ _ _ _ (0, [some (.ref 386)], [], M126)
          refine w_lo dX9_many_0 rfl rfl rfl rfl ?_
          refine w_gf dX9_many_1 rfl hJ127.1.1 zs_386 (zr_386_13 hJ127.1) ?_
          refine w_lo dX9_many_4 rfl rfl rfl rfl ?_
          have f130 := (hn129 (386) 12 (Or.inl (by omega))).trans (f107)
          refine w_gf dX9_many_5 rfl hJ127.1.1 zs_386 f130 ?_
          have f134 := (hn129 (388) (x106 : Int32).toInt.toNat (Or.inl (by omega))).trans (f110)
          refine w_ia dX9_many_8 hJ127.1.1 zs_388 (znat (by omega)) f134 ?_
          refine w_eni dX9_many_9 rfl rfl ?_
          show ZW _ _ _ _ _ _ _ (257, [some (.ref 386), some (.int u209_1), some (.int v209_2), o209_3, o209_4], [.int x113, .int 7, .int 3, .ref 387, .int v209_2, .ref 430], M126)
          refine w_mulc dX9_on_257 zt_7 (by have := zt_7; omega) ?_
          intro x135 h136
          have := zt_7
          refine w_add dX9_on_258 (by have := zt_3; omega) ?_
          intro x137 h138
          have := zt_3
          refine w_ic dX9_on_259 zi_2 ?_
          refine w_lo dX9_on_260 rfl rfl rfl rfl ?_
          refine w_mulc dX9_on_261 zt_2 (by have := zt_2; omega) ?_
          intro x139 h140
          have := zt_2
          refine w_add dX9_on_262 (by omega) ?_
          intro x141 h142
          refine w_iai dX9_on_263 hJ127.1 zs_387 (by omega) (by omega) zu_387 ?_
          intro x146 f143 h144 h145
          refine w_isi dX9_on_264 hJ127 zs_430 (by omega) (by omega) zu_430 (zbot _) (ztop _) (zIR_s (zIR_s (zIR_a (by omega) (by omega)))) ?_
          intro M147 hJ148 f149 hn150
          refine w_inc (kk := 2) dX9_on_265 rfl (m := 1) (by decide) (by omega) ?_
          intro x151 h152
          refine ⟨_, rfl, ?_⟩
          show ZW _ _ _ _ _ _ _ (268, [some (.ref 386), some (.int u209_1), some (.int x151), o209_3, o209_4], [], M147)
          refine w_gt dX9_on_268 (t := 209) rfl ?_
          exact ih209 M147 u209_1 x151 o209_3 o209_4 hJ148 (by omega) (by omega) (by omega)
        · skip
          refine w_cge_t dX9_on_214 (t := 271) rfl (by omega) ?_
          refine w_lo dX9_on_271 rfl rfl rfl rfl ?_
          refine w_gf dX9_on_272 rfl hJ104.1.1 zs_386 (zr_386_62 hJ104.1) ?_
          refine w_ic dX9_on_275 zi_0 ?_
          refine w_ic dX9_on_276 zi_0 ?_
          refine w_isi dX9_on_277 hJ104 zs_431 (by have := zt_0; omega) (by have := zt_0; omega) zu_431 (by have := zt_0; omega) (by have := zt_0; omega) (zIR_s (zIR_s (zIR_a (by omega) (by omega)))) ?_
          intro M153 hJ154 f155 hn156
          refine w_lo dX9_on_278 rfl rfl rfl rfl ?_
          refine w_ic dX9_on_279 zi_0 ?_
          refine w_pfi dX9_on_280 rfl hJ154 zs_386 (Nat.le_of_ble_eq_true rfl) zo_386_65 (by have := zt_0; omega) (by have := zt_0; omega) (zIR_s (zIR_s (zIR_s (zIR_k (by omega) (by omega))))) rfl rfl rfl ?_
          intro M157 hJ158 f159 hn160
          refine w_lo dX9_on_283 rfl rfl rfl rfl ?_
          refine w_ic dX9_on_284 zi_0 ?_
          refine w_pfi dX9_on_285 rfl hJ158 zs_386 (Nat.le_of_ble_eq_true rfl) zo_386_68 (by have := zt_0; omega) (by have := zt_0; omega) (zIR_s (zIR_s (zIR_s (zIR_s (zIR_k (by omega) (by omega)))))) rfl rfl rfl ?_
          intro M161 hJ162 f163 hn164
          refine w_ic dX9_on_288 zi_1 ?_
          refine w_en dX9_on_289 rfl ?_
          exact ⟨_, _, rfl, (by have := zt_1; omega), (by have := zt_1; omega), hJ162, trivial⟩
  obtain ⟨ih56, ih209⟩ := main 115
  show ZW _ _ _ _ _ _ _ (0, [some (.ref 386), none, none, none, none], [], M0)
  refine w_lo dX9_on_0 rfl rfl rfl rfl ?_
  refine w_gfi dX9_on_1 rfl hJ0.1 zs_386 (Nat.le_of_ble_eq_true rfl) zo_386_1 ?_
  intro x165 f166 h167 h168
  refine w_lo (ml' := [some (.ref 386), some (.int x165), none, none, none]) dX9_on_4 rfl rfl rfl rfl ?_
  refine w_lo dX9_on_5 rfl rfl rfl rfl ?_
  refine w_ic dX9_on_6 zi_0 ?_
  refine w_pfi dX9_on_7 rfl hJ0 zs_386 (Nat.le_of_ble_eq_true rfl) zo_386_1 (by have := zt_0; omega) (by have := zt_0; omega) (zIR_k (by omega) (by omega)) rfl rfl rfl ?_
  intro M169 hJ170 f171 hn172
  refine w_lo dX9_on_10 rfl rfl rfl rfl ?_
  refine w_lo dX9_on_11 rfl rfl rfl rfl ?_
  refine w_iv dX9_on_12 rfl rfl (As := [.int x165]) rfl rfl hJ170.1.1 zs_386 (Nat.le_of_ble_eq_true rfl) ?_
  refine ZV.imp (k_2427 x165 (by omega) (by omega) hN hJ170.1) ?_
  rintro _ ⟨x176, M173, rfl, h177, h178, hJ174, hq175⟩
  have hJ179 := zJ_trans hJ170 hJ174 zSub_nil
  show ZW _ _ _ _ _ _ _ (15, [some (.ref 386), some (.int x165), none, none, none], [.int x176], M173)
  rcases Int.decEq x176.toInt (0 : Int) with h180 | h180
  · skip
    refine w_ine_t dX9_on_15 (t := 32) rfl (by omega) ?_
    refine w_lo dX9_on_32 rfl rfl rfl rfl ?_
    refine w_gf dX9_on_33 rfl hJ179.1.1 zs_386 (zr_386_49 hJ179.1) ?_
    refine w_ic dX9_on_36 zi_0 ?_
    refine w_lo dX9_on_37 rfl rfl rfl rfl ?_
    refine w_gf dX9_on_38 rfl hJ179.1.1 zs_386 (zr_386_0 hJ179.1) ?_
    refine w_ic dX9_on_41 zi_0 ?_
    refine w_iai dX9_on_42 hJ179.1 zs_387 (by have := zt_0; omega) (by have := zt_0; omega) zu_387 ?_
    intro x184 f181 h182 h183
    refine w_bi dX9_on_43 (c := 8) (by decide) ?_
    refine w_puI dX9_on_45 rfl rfl ?_
    intro x185
    refine w_lo dX9_on_46 rfl rfl rfl rfl ?_
    refine w_gf dX9_on_47 rfl hJ179.1.1 zs_386 (zr_386_0 hJ179.1) ?_
    refine w_ic dX9_on_50 zi_1 ?_
    refine w_iai dX9_on_51 hJ179.1 zs_387 (by have := zt_1; omega) (by have := zt_1; omega) zu_387 ?_
    intro x189 f186 h187 h188
    refine w_puI dX9_on_52 rfl rfl ?_
    intro x190
    refine w_isi dX9_on_53 hJ179 zs_418 (by have := zt_0; omega) (by have := zt_0; omega) zu_418 (zbot _) (ztop _) (zIR_s (zIR_s (zIR_a (by omega) (by omega)))) ?_
    intro M191 hJ192 f193 hn194
    refine w_ic dX9_on_54 zi_0 ?_
    refine w_lo (ml' := [some (.ref 386), some (.int x165), some (.int 0), none, none]) dX9_on_55 rfl rfl rfl rfl ?_
    exact ih56 M191 x165 0 none none hJ192 (by have := zt_0; omega) (by have := zt_0; omega) (by have := zt_0; omega)
  · skip
    refine w_ine_f dX9_on_15 (t := 32) rfl (by omega) ?_
    refine w_lo dX9_on_18 rfl rfl rfl rfl ?_
    refine w_ic dX9_on_19 zi_5 ?_
    refine w_iv dX9_on_20 rfl rfl (As := [.int 5]) rfl rfl hJ179.1.1 zs_386 (Nat.le_of_ble_eq_true rfl) ?_
    refine ZV.imp (k_2306 5 (by have := zt_5; omega) (by have := zt_5; omega) hN hJ179.1) ?_
    rintro _ ⟨x198, M195, rfl, h199, h200, hJ196, hq197⟩
    have hJ201 := zJ_trans hJ179 hJ196 (zSub_cons (fun _ _ h h' hk => zIR_s (zIR_a (by omega) (by omega))) zSub_nil)
    show ZW _ _ _ _ _ _ _ (23, [some (.ref 386), some (.int x165), none, none, none], [.int x198], M195)
    refine w_ilt_t dX9_on_23 (t := 30) rfl (by omega) ?_
    refine w_ic dX9_on_30 zi_0 ?_
    refine w_en dX9_on_31 rfl ?_
    exact ⟨_, _, rfl, (by have := zt_0; omega), (by have := zt_0; omega), hJ201, trivial⟩
