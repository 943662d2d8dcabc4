/-! pure proofs (wip/safe/vcp.py) -/
set_option maxHeartbeats 4000000 in
theorem v_2416 {s0 : zF} {a0 : Int} : b_2416 s0 a0 (fun v _ => v = -1 ∨ a0 ≤ v) := by
  refine ⟨fun n g v2_2 => n = (20 - v2_2).toNat ∧ a0 ≤ v2_2, ?_, ?_⟩
  · skip
    exact ⟨_, rfl, by omega⟩
  · intro n g v2_2 rg qv2_20 qv2_21 hI
    obtain ⟨hn, hv⟩ := hI
    intro x1 ex1 fx1 gx1
    intro x8 ex8 fx8 gx8
    intro x9 ex9
    refine ⟨fun h11 => ?_, fun h11 => ?_⟩
    · skip
      intro x15 ex15 fx15 gx15
      refine ⟨fun h16 => ?_, fun h16 => ?_⟩
      · skip
        intro x20 ex20
        refine ⟨fun h22 => ?_, fun h22 => ?_⟩
        · skip
          exact Or.inr (by omega)
        · skip
          exact Or.inl rfl
      · skip
        intro x23 ex23
        refine ⟨_, ?_, rfl, by omega⟩
        omega
    · skip
      intro x28 ex28
      refine ⟨fun h30 => ?_, fun h30 => ?_⟩
      · skip
        exact Or.inr (by omega)
      · skip
        exact Or.inl rfl
set_option maxHeartbeats 4000000 in
theorem v_2415 {s0 : zF} {a0 : Int} : b_2415 s0 a0 (fun v g => v = 1 → Rg (zsh (g 437)) a0) := by
  refine ⟨fun n g v4_1 v4_2 v4_3 => n = (10 - v4_3).toNat ∧ v4_1 = a0 ∧ ∀ p : Nat, (p : Int) < v4_3 → 0 ≤ g 437 p + 1 ∧ g 437 p + 1 ≤ 11, ?_, ?_⟩
  · skip
    exact ⟨_, rfl, rfl, fun p hp => by omega⟩
  · intro n g v4_1 v4_2 v4_3 rg qv4_10 qv4_11 qv4_20 qv4_21 qv4_30 qv4_31 hI
    obtain ⟨hn, hv, hp⟩ := hI
    refine ⟨fun h1 => ?_, fun h1 => ?_⟩
    · skip
      refine ⟨fun v _ => v = -1 ∨ v4_2 ≤ v, ?_, ?_⟩
      · skip
        exact v_2416
      · skip
        intro x7 hx71 hx72 g10 rg10 qg10
        intro g16 eg16
        refine ⟨fun h20 => ?_, fun h20 => ?_⟩
        · skip
          intro x24 ex24
          intro x26 ex26
          have a437 : g16 437 = zup1 (g 437) v4_3.toNat x7 := by
            rw [eg16, zup_app, if_pos rfl, rg10.a (a := 437) (by decide)]
          refine ⟨_, ?_, rfl, hv, fun p hq => ?_⟩
          · omega
          · rw [a437, zup1_app]
            split
            · omega
            · exact hp p (by omega)
        · skip
          exact fun z => absurd z (by decide)
    · skip
      exact fun _ p hq => hp p (by omega)
set_option maxHeartbeats 4000000 in
theorem v_2419 {s0 : zF} {a0 : Int} (hr : Rg (zsh (s0 437)) a0) : b_2419 s0 a0 (fun v g => Rg (zsh (g 437)) a0 ∧ (v = 1 → vl (zsh (s0 437)) a0.toNat < vl (zsh (g 437)) a0.toNat)) := by
  refine ⟨fun n g v4_1 v4_2 => n = (20 * (v4_2 + 1) + 10).toNat ∧ v4_1 = a0 ∧ v4_2 < a0 ∧ Rg (zsh (g 437)) a0 ∧ ∀ p : Nat, (p : Int) ≤ v4_2 → g 437 p = s0 437 p, fun n g v45_1 v45_2 v45_4 v45_5 => n = (20 * (v45_2 + 1) + 9 - v45_5).toNat ∧ v45_1 = a0 ∧ v45_2 < a0 ∧ v45_2 < v45_5 ∧ Rg (zsh (g 437)) a0 ∧ (∀ p : Nat, (p : Int) < v45_2 → g 437 p = s0 437 p) ∧ (¬ v45_4 = 0 → s0 437 v45_2.toNat < g 437 v45_2.toNat), ?_, ?_, ?_⟩
  · skip
    intro x71 ex71
    exact ⟨_, rfl, rfl, by omega, hr, fun p hq => rfl⟩
  · intro n g v4_1 v4_2 rg qv4_10 qv4_11 qv4_20 qv4_21 hI
    obtain ⟨hn, hv1, hv2, hr2, hp⟩ := hI
    refine ⟨fun h1 => ?_, fun h1 => ?_⟩
    · skip
      exact ⟨hr2, fun z => absurd z (by decide)⟩
    · skip
      intro x5 ex5 fx5 gx5
      intro x6 ex6
      refine ⟨fun v _ => v = -1 ∨ x6 ≤ v, ?_, ?_⟩
      · skip
        exact v_2416
      · skip
        intro x13 hx131 hx132 g16 rg16 qg16
        refine ⟨fun h18 => ?_, fun h18 => ?_⟩
        · skip
          intro g23 eg23
          intro x24 ex24
          have a437 : g23 437 = zup1 (g 437) v4_2.toNat x13 := by
            rw [eg23, zup_app, if_pos rfl, rg16.a (a := 437) (by decide)]
          have q0 := hp v4_2.toNat (by omega)
          refine ⟨_, ?_, rfl, hv1, hv2, by omega, by rw [a437]; exact hr2.up (by omega), fun p hq => ?_, fun z => ?_⟩
          · omega
          · rw [a437, zup1_ne (by omega)]
            exact hp p (by omega)
          · rw [a437, zup1_eq]
            rcases qg16 with q | q
            · exact absurd q (by omega)
            · omega
        · skip
          intro g30 eg30
          intro x31 ex31
          have a437 : g30 437 = zup1 (g 437) v4_2.toNat x13 := by
            rw [eg30, zup_app, if_pos rfl, rg16.a (a := 437) (by decide)]
          have q0 := hp v4_2.toNat (by omega)
          refine ⟨_, ?_, rfl, hv1, hv2, by omega, by rw [a437]; exact hr2.up (by omega), fun p hq => ?_, fun z => ?_⟩
          · omega
          · rw [a437, zup1_ne (by omega)]
            exact hp p (by omega)
          · exact absurd rfl z
  · intro n g v45_1 v45_2 v45_4 v45_5 rg qv45_10 qv45_11 qv45_20 qv45_21 qv45_40 qv45_41 qv45_50 qv45_51 hI
    obtain ⟨hn, hv1, hv2, hv3, hr2, hp, hgr⟩ := hI
    refine ⟨fun h33 => ?_, fun h33 => ?_⟩
    · skip
      refine ⟨fun h34 => ?_, fun h34 => ?_⟩
      · skip
        intro x35 ex35
        intro x40 ex40 fx40 gx40
        intro x41 ex41
        refine ⟨fun v _ => v = -1 ∨ x41 ≤ v, ?_, ?_⟩
        · skip
          exact v_2416
        · skip
          intro x48 hx481 hx482 g51 rg51 qg51
          intro g57 eg57
          refine ⟨fun h61 => ?_, fun h61 => ?_⟩
          · skip
            intro x62 ex62
            have a437 : g57 437 = zup1 (g 437) v45_5.toNat x48 := by
              rw [eg57, zup_app, if_pos rfl, rg51.a (a := 437) (by decide)]
            refine ⟨_, ?_, rfl, hv1, hv2, by omega, by rw [a437]; exact hr2.up (by omega), fun p hq => ?_, fun z => ?_⟩
            · omega
            · rw [a437, zup1_ne (by omega)]
              exact hp p (by omega)
            · rw [a437, zup1_ne (by omega)]
              exact hgr (by omega)
          · skip
            intro x64 ex64
            have a437 : g57 437 = zup1 (g 437) v45_5.toNat x48 := by
              rw [eg57, zup_app, if_pos rfl, rg51.a (a := 437) (by decide)]
            refine ⟨_, ?_, rfl, hv1, hv2, by omega, by rw [a437]; exact hr2.up (by omega), fun p hq => ?_, fun z => ?_⟩
            · omega
            · rw [a437, zup1_ne (by omega)]
              exact hp p (by omega)
            · exact absurd rfl z
      · skip
        intro x66 ex66
        refine ⟨_, ?_, rfl, hv1, by omega, hr2, fun p hq => hp p (by omega)⟩
        omega
    · skip
      refine ⟨fun h68 => ?_, fun h68 => ?_⟩
      · skip
        have e1 := hgr (by omega)
        have gw : Grw (zsh (s0 437)) (zsh (g 437)) a0 v45_2.toNat := ⟨fun p hq => by
          show g 437 p + 1 = s0 437 p + 1
          rw [hp p (by omega)], by
          show s0 437 v45_2.toNat + 1 < g 437 v45_2.toNat + 1
          omega, by omega⟩
        exact ⟨hr2, fun _ => gw.vl hr hr2⟩
      · skip
        intro x69 ex69
        refine ⟨_, ?_, rfl, hv1, by omega, hr2, fun p hq => hp p (by omega)⟩
        omega
set_option maxHeartbeats 4000000 in
theorem v_2414 {s0 : zF} {a0 a1 : Int} : b_2414 s0 a0 a1 (fun _ _ => True) := by
  refine ⟨fun n g v47_1 v47_2 v47_3 v47_4 => n = (if v47_4 = 1 then 20 * (3000000 - vl (zsh (g 437)) v47_1.toNat) + 15 else 0).toNat ∧ Rg (zsh (g 437)) v47_1, fun n g v76_1 v76_2 v76_3 v76_6 => n = (20 * (3000000 - vl (zsh (g 437)) v76_1.toNat) + 14 - v76_6).toNat ∧ Rg (zsh (g 437)) v76_1, ?_, ?_, ?_⟩
  · skip
    refine ⟨fun h49 => ?_, fun h49 => ?_⟩
    · skip
      trivial
    · skip
      refine ⟨fun h50 => ?_, fun h50 => ?_⟩
      · skip
        trivial
      · skip
        intro x51 ex51 fx51 gx51
        intro x58 ex58 fx58 gx58
        refine ⟨fun h59 => ?_, fun h59 => ?_⟩
        · skip
          refine ⟨fun h60 => ?_, fun h60 => ?_⟩
          · skip
            intro x61 ex61
            refine ⟨fun h63 => ?_, fun h63 => ?_⟩
            · skip
              trivial
            · skip
              refine ⟨fun h64 => ?_, fun h64 => ?_⟩
              · skip
                trivial
              · skip
                refine ⟨fun v g' => v = 1 → Rg (zsh (g' 437)) a0, ?_, ?_⟩
                · skip
                  exact v_2415
                · skip
                  intro x70 hx701 hx702 g73 rg73 qg73
                  refine ⟨fun h75 => ?_, fun h75 => ?_⟩
                  · skip
                    have hr : Rg (zsh (g73 437)) a0 := qg73 (by omega)
                    exact ⟨_, rfl, hr⟩
                  · skip
                    trivial
          · skip
            refine ⟨fun v g' => v = 1 → Rg (zsh (g' 437)) a0, ?_, ?_⟩
            · skip
              exact v_2415
            · skip
              intro x81 hx811 hx812 g84 rg84 qg84
              refine ⟨fun h86 => ?_, fun h86 => ?_⟩
              · skip
                have hr : Rg (zsh (g84 437)) a0 := qg84 (by omega)
                exact ⟨_, rfl, hr⟩
              · skip
                trivial
        · skip
          trivial
  · intro n g v47_1 v47_2 v47_3 v47_4 rg qv47_10 qv47_11 qv47_20 qv47_21 qv47_30 qv47_40 qv47_41 hI
    obtain ⟨hn, hr⟩ := hI
    have hb := vl_6 (f := zsh (g 437)) (n := v47_1.toNat) (by omega) (fun p hp => hr p (by omega))
    have hb0 := vl_b (f := zsh (g 437)) (n := v47_1.toNat) (fun p hp => hr p (by omega))
    refine ⟨fun h1 => ?_, fun h1 => ?_⟩
    · skip
      intro x5 hx51 g8 rg8 
      refine ⟨fun h10 => ?_, fun h10 => ?_⟩
      · skip
        refine ⟨fun h11 => ?_, fun h11 => ?_⟩
        · skip
          have d437 : g8 437 = g 437 := rg8.a (by decide)
          refine ⟨_, ?_, rfl, by rw [d437]; exact hr⟩
          rw [d437, hn, if_pos (by omega)]
          omega
        · skip
          refine ⟨fun v g' => Rg (zsh (g' 437)) v47_1 ∧ (v = 1 → vl (zsh (g8 437)) v47_1.toNat < vl (zsh (g' 437)) v47_1.toNat), ?_, ?_⟩
          · skip
            have d437 : g8 437 = g 437 := rg8.a (by decide)
            exact v_2419 (by rw [d437]; exact hr)
          · skip
            intro x17 hx171 hx172 g20 rg20 qg20
            have c : Rg (zsh (g20 437)) _ ∧ _ := qg20
            obtain ⟨c1, c2⟩ := c
            have d437 : g8 437 = g 437 := rg8.a (by decide)
            rw [d437] at c2
            refine ⟨_, ?_, rfl, c1⟩
            rw [hn, if_pos (by omega : v47_4 = 1)]
            split
            · have := c2 (by omega)
              omega
            · omega
      · skip
        have d437 : g8 437 = g 437 := rg8.a (by decide)
        refine ⟨_, ?_, rfl, by rw [d437]; exact hr⟩
        rw [d437, hn, if_pos (by omega)]
        omega
    · skip
      refine ⟨fun h22 => ?_, fun h22 => ?_⟩
      · skip
        intro x26 ex26 fx26 gx26
        trivial
      · skip
        trivial
  · intro n g v76_1 v76_2 v76_3 v76_6 rg qv76_10 qv76_11 qv76_20 qv76_21 qv76_30 qv76_60 qv76_61 hI
    obtain ⟨hn, hr⟩ := hI
    have hb := vl_6 (f := zsh (g 437)) (n := v76_1.toNat) (by omega) (fun p hp => hr p (by omega))
    have hb0 := vl_b (f := zsh (g 437)) (n := v76_1.toNat) (fun p hp => hr p (by omega))
    refine ⟨fun h27 => ?_, fun h27 => ?_⟩
    · skip
      intro x31 ex31 fx31 gx31
      intro g36 eg36
      intro x37 ex37
      have d437 : g36 437 = g 437 := by
        rw [eg36, zup_na (by decide)]
      refine ⟨_, ?_, rfl, by rw [d437]; exact hr⟩
      rw [d437, hn]
      omega
    · skip
      refine ⟨fun v g' => Rg (zsh (g' 437)) v76_1 ∧ (v = 1 → vl (zsh (g 437)) v76_1.toNat < vl (zsh (g' 437)) v76_1.toNat), ?_, ?_⟩
      · skip
        exact v_2419 hr
      · skip
        intro x44 hx441 hx442 g47 rg47 qg47
        have c : Rg (zsh (g47 437)) _ ∧ _ := qg47
        obtain ⟨c1, c2⟩ := c
        refine ⟨_, ?_, rfl, c1⟩
        rw [hn]
        split
        · have := c2 (by omega)
          omega
        · omega
