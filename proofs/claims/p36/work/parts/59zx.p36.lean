/-! the answers of p36 (wip/safe/vcp36.py) -/
set_option maxRecDepth 100000 in
def b_2107 (s0 : zF) (a0 : Int) (Q : zF → Prop) : Prop :=
  ∀ x1 : Int, x1 = s0 (0) 13 → 0 ≤ x1 → x1 ≤ 109 → (x1 < 109 → ∀ g10 : zF, g10 = zup s0 (384) x1.toNat a0 → ∀ x12 : Int, x12 = x1 + 1 → ∀ g18 : zF, g18 = zup g10 (0) 13 x12 → Q g18) ∧ (109 ≤ x1 → Q s0)
set_option maxRecDepth 100000 in
def b_2106 (s0 : zF) (a0 : Int) (Q : zF → Prop) : Prop :=
  ∀ x1 : Int, ∃ P4 : zF → Prop, b_2107 s0 x1 P4 ∧ ∀ g7 : zF, zFr [(384, 385, 1000), (0, 1, 13)] s0 g7 → P4 g7 → ∀ x9 : Int, ∃ P12 : zF → Prop, b_2107 g7 x9 P12 ∧ ∀ g15 : zF, zFr [(384, 385, 1000), (0, 1, 13)] g7 g15 → P12 g15 → Q g15
set_option maxRecDepth 100000 in
def b_2105 (s0 : zF) (Q : Int → zF → Prop) : Prop :=
  ∃ (I18 : Nat → zF → Int → Prop) (I135 : Nat → zF → Int → Prop),
    (∀ g223 : zF, g223 = zup s0 (0) 13 0 → ∀ x224 : Int, x224 = g223 (49) 1 → ∃ P230 : zF → Prop, b_2106 g223 x224 P230 ∧ ∀ g233 : zF, zFr [(384, 385, 1000), (0, 1, 13)] g223 g233 → P230 g233 → ∃ m : Nat, I18 m g233 0) ∧
    (∀ (n : Nat) (g : zF) (v18_1 : Int), zFr [(384, 385, 1000), (0, 1, 13)] s0 g → 0 ≤ v18_1 → v18_1 ≤ 12 → I18 n g v18_1 → ∀ x1 : Int, x1 = g (49) 0 → 0 ≤ x1 → x1 ≤ 12 → (v18_1 < x1 → ∀ x9 : Int, x9 = g (50) v18_1.toNat → 0 ≤ x9 → x9 ≤ 11 → ∃ P12 : zF → Prop, b_2107 g x9 P12 ∧ ∀ g15 : zF, zFr [(384, 385, 1000), (0, 1, 13)] g g15 → P12 g15 → ∀ x20 : Int, x20 = g15 (51) x9.toNat → 0 ≤ x20 → x20 ≤ 1 → (¬ x20 = 0 → ∃ P24 : zF → Prop, b_2107 g15 1 P24 ∧ ∀ g27 : zF, zFr [(384, 385, 1000), (0, 1, 13)] g15 g27 → P24 g27 → ∀ x32 : Int, x32 = g27 (52) x9.toNat → (-1) ≤ x32 → x32 ≤ 5 → ∀ x33 : Int, x33 = x32 + 1 → ∃ P37 : zF → Prop, b_2107 g27 x33 P37 ∧ ∀ g40 : zF, zFr [(384, 385, 1000), (0, 1, 13)] g27 g40 → P37 g40 → ∀ x45 : Int, x45 = g40 (53) x9.toNat → ∃ P48 : zF → Prop, b_2107 g40 x45 P48 ∧ ∀ g51 : zF, zFr [(384, 385, 1000), (0, 1, 13)] g40 g51 → P48 g51 → ∀ x56 : Int, x56 = g51 (54) x9.toNat → (-1) ≤ x56 → x56 ≤ 5 → ∀ x57 : Int, x57 = x56 + 1 → ∃ P61 : zF → Prop, b_2107 g51 x57 P61 ∧ ∀ g64 : zF, zFr [(384, 385, 1000), (0, 1, 13)] g51 g64 → P61 g64 → ∀ x69 : Int, x69 = g64 (57) x9.toNat → ∀ x70 : Int, x70 ≤ x69 → x70 ≤ 9999 → (x70 = x69 ∨ x70 = 9999) → ∃ P76 : zF → Prop, b_2106 g64 x70 P76 ∧ ∀ g79 : zF, zFr [(384, 385, 1000), (0, 1, 13)] g64 g79 → P76 g79 → ∀ x81 : Int, x81 = v18_1 + 1 → ∃ m : Nat, m < n ∧ I18 m g79 x81) ∧ (x20 = 0 → ∃ P85 : zF → Prop, b_2107 g15 0 P85 ∧ ∀ g88 : zF, zFr [(384, 385, 1000), (0, 1, 13)] g15 g88 → P85 g88 → ∀ x93 : Int, x93 = g88 (52) x9.toNat → (-1) ≤ x93 → x93 ≤ 5 → ∀ x94 : Int, x94 = x93 + 1 → ∃ P98 : zF → Prop, b_2107 g88 x94 P98 ∧ ∀ g101 : zF, zFr [(384, 385, 1000), (0, 1, 13)] g88 g101 → P98 g101 → ∀ x106 : Int, x106 = g101 (53) x9.toNat → ∃ P109 : zF → Prop, b_2107 g101 x106 P109 ∧ ∀ g112 : zF, zFr [(384, 385, 1000), (0, 1, 13)] g101 g112 → P109 g112 → ∀ x117 : Int, x117 = g112 (54) x9.toNat → (-1) ≤ x117 → x117 ≤ 5 → ∀ x118 : Int, x118 = x117 + 1 → ∃ P122 : zF → Prop, b_2107 g112 x118 P122 ∧ ∀ g125 : zF, zFr [(384, 385, 1000), (0, 1, 13)] g112 g125 → P122 g125 → ∀ x130 : Int, x130 = g125 (57) x9.toNat → ∀ x131 : Int, x131 ≤ x130 → x131 ≤ 9999 → (x131 = x130 ∨ x131 = 9999) → ∃ P137 : zF → Prop, b_2106 g125 x131 P137 ∧ ∀ g140 : zF, zFr [(384, 385, 1000), (0, 1, 13)] g125 g140 → P137 g140 → ∀ x142 : Int, x142 = v18_1 + 1 → ∃ m : Nat, m < n ∧ I18 m g140 x142)) ∧ (x1 ≤ v18_1 → ∃ m : Nat, m < n ∧ I135 m g 0)) ∧
    (∀ (n : Nat) (g : zF) (v135_1 : Int), zFr [(384, 385, 1000), (0, 1, 13)] s0 g → 0 ≤ v135_1 → v135_1 ≤ 11 → I135 n g v135_1 → ∀ x144 : Int, x144 = g (49) 0 → 0 ≤ x144 → x144 ≤ 12 → ∀ x148 : Int, x148 = x144 - 1 → (v135_1 < x148 → ∀ x154 : Int, x154 = g (60) v135_1.toNat → 0 ≤ x154 → x154 ≤ 1 → (¬ x154 = 0 → ∃ P158 : zF → Prop, b_2107 g 1 P158 ∧ ∀ g161 : zF, zFr [(384, 385, 1000), (0, 1, 13)] g g161 → P158 g161 → ∀ x166 : Int, x166 = g161 (61) v135_1.toNat → 0 ≤ x166 → x166 ≤ 255 → ∃ P169 : zF → Prop, b_2107 g161 x166 P169 ∧ ∀ g172 : zF, zFr [(384, 385, 1000), (0, 1, 13)] g161 g172 → P169 g172 → ∀ x174 : Int, x174 = v135_1 + 1 → ∃ m : Nat, m < n ∧ I135 m g172 x174) ∧ (x154 = 0 → ∃ P178 : zF → Prop, b_2107 g 0 P178 ∧ ∀ g181 : zF, zFr [(384, 385, 1000), (0, 1, 13)] g g181 → P178 g181 → ∀ x186 : Int, x186 = g181 (61) v135_1.toNat → 0 ≤ x186 → x186 ≤ 255 → ∃ P189 : zF → Prop, b_2107 g181 x186 P189 ∧ ∀ g192 : zF, zFr [(384, 385, 1000), (0, 1, 13)] g181 g192 → P189 g192 → ∀ x194 : Int, x194 = v135_1 + 1 → ∃ m : Nat, m < n ∧ I135 m g192 x194)) ∧ (x148 ≤ v135_1 → ∀ x196 : Int, x196 = g (0) 13 → 0 ≤ x196 → x196 ≤ 109 → ∀ x203 : Int, ∀ g206 : zF, zFr [] g g206 → ∃ P210 : zF → Prop, b_2107 g206 x203 P210 ∧ ∀ g213 : zF, zFr [(384, 385, 1000), (0, 1, 13)] g206 g213 → P210 g213 → ∀ x215 : Int, x215 = g213 (0) 13 → 0 ≤ x215 → x215 ≤ 109 → Q x215 g213))
set_option maxRecDepth 100000 in
def b_2423 (s0 : zF) (Q : Int → zF → Prop) : Prop :=
  ∃ (I30 : Nat → zF → Int → Prop) (I69 : Nat → zF → Int → Int → Int → Prop) (I140 : Nat → zF → Int → Prop) (I181 : Nat → zF → Int → Int → Prop),
    (∀ g267 : zF, g267 = zup s0 (386) 81 0 → ∀ x271 : Int, x271 = g267 (418) 0 → ∀ x272 : Int, ∀ x273 : Int, 0 ≤ x273 → x273 ≤ 255 → ∀ g280 : zF, g280 = zup g267 (439) 0 x273 → ∀ g286 : zF, g286 = zup g280 (386) 81 1 → ∀ x291 : Int, 0 ≤ x291 → x291 ≤ 255 → ∀ g298 : zF, g298 = zup g286 (439) 1 x291 → ∀ g304 : zF, g304 = zup g298 (386) 81 2 → ∃ m : Nat, I30 m g304 0) ∧
    (∀ (n : Nat) (g : zF) (v30_1 : Int), zFr [(439, 440, 1000), (386, 387, 81)] s0 g → 0 ≤ v30_1 → v30_1 ≤ 12 → I30 n g v30_1 → ∀ x1 : Int, x1 = g (386) 12 → 0 ≤ x1 → x1 ≤ 1 → ∀ x8 : Int, x8 = g (388) x1.toNat → 0 ≤ x8 → x8 ≤ 12 → (v30_1 < x8 → ∀ x13 : Int, x13 = g (419) v30_1.toNat → 0 ≤ x13 → x13 ≤ 11 → ∀ x17 : Int, x17 = g (426) x13.toNat → (9999 < x17 → ∃ m : Nat, m < n ∧ I69 m g v30_1 x13 9999) ∧ (x17 ≤ 9999 → ∃ m : Nat, m < n ∧ I69 m g v30_1 x13 x17)) ∧ (x8 ≤ v30_1 → ∃ m : Nat, m < n ∧ I140 m g 0)) ∧
    (∀ (n : Nat) (g : zF) (v69_1 : Int) (v69_2 : Int) (s69_0 : Int), zFr [(439, 440, 1000), (386, 387, 81)] s0 g → 0 ≤ v69_1 → v69_1 ≤ 11 → 0 ≤ v69_2 → v69_2 ≤ 11 → s69_0 ≤ 9999 → I69 n g v69_1 v69_2 s69_0 → ∀ x22 : Int, x22 = g (386) 81 → 0 ≤ x22 → x22 ≤ 120 → ∀ x26 : Int, 0 ≤ x26 → x26 ≤ 255 → (x22 ≤ 119) ∧ ∀ g34 : zF, g34 = zup g (439) x22.toNat x26 → ∀ x36 : Int, x36 = x22 + 1 → ∀ g42 : zF, g42 = zup g34 (386) 81 x36 → ∀ x46 : Int, x46 = g42 (420) v69_2.toNat → 0 ≤ x46 → x46 ≤ 255 → ∀ x47 : Int, 0 ≤ x47 → x47 ≤ 255 → (x36 ≤ 119) ∧ ∀ g55 : zF, g55 = zup g42 (439) x36.toNat x47 → ∀ x57 : Int, x57 = x36 + 1 → ∀ g63 : zF, g63 = zup g55 (386) 81 x57 → ∀ x67 : Int, x67 = g63 (421) v69_2.toNat → (-1) ≤ x67 → x67 ≤ 5 → ∀ x68 : Int, x68 = x67 + 1 → ∀ x70 : Int, 0 ≤ x70 → x70 ≤ 255 → (x57 ≤ 119) ∧ ∀ g78 : zF, g78 = zup g63 (439) x57.toNat x70 → ∀ x80 : Int, x80 = x57 + 1 → ∀ g86 : zF, g86 = zup g78 (386) 81 x80 → ∀ x90 : Int, x90 = g86 (422) v69_2.toNat → ∀ x91 : Int, 0 ≤ x91 → x91 ≤ 255 → (x80 ≤ 119) ∧ ∀ g99 : zF, g99 = zup g86 (439) x80.toNat x91 → ∀ x101 : Int, x101 = x80 + 1 → ∀ g107 : zF, g107 = zup g99 (386) 81 x101 → ∀ x111 : Int, x111 = g107 (423) v69_2.toNat → (-1) ≤ x111 → x111 ≤ 5 → ∀ x112 : Int, x112 = x111 + 1 → ∀ x114 : Int, 0 ≤ x114 → x114 ≤ 255 → (x101 ≤ 119) ∧ ∀ g122 : zF, g122 = zup g107 (439) x101.toNat x114 → ∀ x124 : Int, x124 = x101 + 1 → ∀ g130 : zF, g130 = zup g122 (386) 81 x124 → ∀ x131 : Int, ∀ x132 : Int, 0 ≤ x132 → x132 ≤ 255 → (x124 ≤ 119) ∧ ∀ g140 : zF, g140 = zup g130 (439) x124.toNat x132 → ∀ x142 : Int, x142 = x124 + 1 → ∀ g148 : zF, g148 = zup g140 (386) 81 x142 → ∀ x149 : Int, 0 ≤ x149 → x149 ≤ 255 → (x142 ≤ 119) ∧ ∀ g157 : zF, g157 = zup g148 (439) x142.toNat x149 → ∀ x159 : Int, x159 = x142 + 1 → ∀ g165 : zF, g165 = zup g157 (386) 81 x159 → ∀ x166 : Int, x166 = v69_1 + 1 → ∃ m : Nat, m < n ∧ I30 m g165 x166) ∧
    (∀ (n : Nat) (g : zF) (v140_1 : Int), zFr [(439, 440, 1000), (386, 387, 81)] s0 g → 0 ≤ v140_1 → v140_1 ≤ 11 → I140 n g v140_1 → ∀ x168 : Int, x168 = g (386) 12 → 0 ≤ x168 → x168 ≤ 1 → ∀ x175 : Int, x175 = g (388) x168.toNat → 0 ≤ x175 → x175 ≤ 12 → ∀ x176 : Int, x176 = x175 - 1 → (v140_1 < x176 → ∀ x182 : Int, x182 = g (429) v140_1.toNat → 0 ≤ x182 → x182 ≤ 255 → ∀ x183 : Int, x183 = g (386) 81 → 0 ≤ x183 → x183 ≤ 120 → ∀ x187 : Int, 0 ≤ x187 → x187 ≤ 255 → (x183 ≤ 119) ∧ ∀ g195 : zF, g195 = zup g (439) x183.toNat x187 → ∀ x197 : Int, x197 = x183 + 1 → ∀ g203 : zF, g203 = zup g195 (386) 81 x197 → ∀ x207 : Int, x207 = g203 (430) v140_1.toNat → ∀ x208 : Int, 0 ≤ x208 → x208 ≤ 255 → (x197 ≤ 119) ∧ ∀ g216 : zF, g216 = zup g203 (439) x197.toNat x208 → ∀ x218 : Int, x218 = x197 + 1 → ∀ g224 : zF, g224 = zup g216 (386) 81 x218 → ∀ x225 : Int, x225 = v140_1 + 1 → ∃ m : Nat, m < n ∧ I140 m g224 x225) ∧ (x176 ≤ v140_1 → ∃ m : Nat, m < n ∧ I181 m g 89 0)) ∧
    (∀ (n : Nat) (g : zF) (v181_1 : Int) (v181_2 : Int), zFr [(439, 440, 1000), (386, 387, 81)] s0 g → 0 ≤ v181_1 → v181_1 ≤ 250 → 0 ≤ v181_2 → v181_2 ≤ 198 → I181 n g v181_1 v181_2 → ∀ x227 : Int, x227 = g (386) 81 → 0 ≤ x227 → x227 ≤ 120 → (v181_2 < x227 → ∀ x232 : Int, x232 = 5 * v181_1 → ∀ x237 : Int, x237 = g (439) v181_2.toNat → 0 ≤ x237 → x237 ≤ 255 → ∀ x238 : Int, x238 = x232 + x237 → ∀ x240 : Int, 0 ≤ x240 → x240 < 251 → x240 = x238 % 251 → ∀ x244 : Int, x244 = v181_2 + 1 → ∃ m : Nat, m < n ∧ I181 m g x240 x244) ∧ (x227 ≤ v181_2 → ∀ x246 : Int, 0 ≤ x246 → x246 ≤ 255 → (x227 ≤ 119) ∧ ∀ g254 : zF, g254 = zup g (439) x227.toNat x246 → ∀ x256 : Int, x256 = x227 + 1 → ∀ g262 : zF, g262 = zup g254 (386) 81 x256 → Q x256 g262))
set_option maxRecDepth 100000 in
theorem u_2107 {X : List Int32} {d N : Nat} {M0 : zM} (a0 : Int32) (hN : N ≤ 600) (hB0 : zB N M0) {Q : zF → Prop} (hb : b_2107 (zi M0) a0.toInt Q) : ZV X (d + 1) 2107 [.ref 0, .int a0] M0 (zRV N [(384, 385, 1000), (0, 1, 13)] M0 (fun M' => Q (zi M'))) := by
  have hJ0 : zJ N [(384, 385, 1000), (0, 1, 13)] M0 M0 := zJ_refl hB0
  refine ZV.of (ini := false) rfl (Nat.le_of_ble_eq_true rfl) (by decide +kernel) ?_
  unfold b_2107 at hb
  replace hb : zHd _ := hb
  show ZW _ _ _ _ _ _ _ (0, [some (.ref 0), some (.int a0)], [], M0)
  refine w_lo dX8_putOctet_0 rfl rfl rfl rfl ?_
  refine w_gfi dX8_putOctet_1 rfl hJ0.1 zs_0 (Nat.le_of_ble_eq_true rfl) zo_0_13 ?_
  intro x1 f2 h3 h4
  replace hb : zHd _ := hb x1.toInt (ziE f2) h3 h4
  refine w_bi dX8_putOctet_4 (c := 109) (by decide) ?_
  rcases zcut x1.toInt (109 : Int) with h5 | h5
  · skip
    replace hb : zHd _ := hb.1 h5
    refine w_cge_f dX8_putOctet_6 (t := 29) rfl (by have := zt_109; omega) ?_
    refine w_lo dX8_putOctet_9 rfl rfl rfl rfl ?_
    refine w_gf dX8_putOctet_10 rfl hJ0.1.1 zs_0 (zr_0_12 hJ0.1) ?_
    refine w_lo dX8_putOctet_13 rfl rfl rfl rfl ?_
    refine w_gf dX8_putOctet_14 rfl hJ0.1.1 zs_0 f2 ?_
    refine w_lo dX8_putOctet_17 rfl rfl rfl rfl ?_
    refine w_isi dX8_putOctet_18 hJ0 zs_384 (by omega) (by omega) zu_384 (zbot _) (ztop _) (zIR_a (by omega) (by omega)) ?_
    intro M6 hJ7 f8 hn9
    replace hb : zHd _ := hb (zi M6) (zi_zup hn9 f8 rfl rfl)
    refine w_lo dX8_putOctet_19 rfl rfl rfl rfl ?_
    refine w_pu dX8_putOctet_20 rfl rfl ?_
    have f11 := (hn9 (0) 13 (Or.inl (by omega))).trans (f2)
    refine w_gf dX8_putOctet_21 rfl hJ7.1.1 zs_0 f11 ?_
    refine w_ic dX8_putOctet_24 zi_1 ?_
    refine w_add dX8_putOctet_25 (by have := zt_1; omega) ?_
    intro x12 h13
    have := zt_1
    replace hb : zHd _ := hb x12.toInt (by have := zt_1; omega)
    refine w_pfi dX8_putOctet_26 rfl hJ7 zs_0 (Nat.le_of_ble_eq_true rfl) zo_0_13 (by omega) (by omega) (zIR_s (zIR_k (by omega) (by omega))) rfl rfl rfl ?_
    intro M14 hJ15 f16 hn17
    replace hb : zHd _ := hb (zi M14) (zi_zup hn17 f16 rfl rfl)
    refine w_en dX8_putOctet_29 rfl ?_
    exact ⟨_, rfl, hJ15, hb⟩
  · skip
    replace hb : zHd _ := hb.2 h5
    refine w_cge_t dX8_putOctet_6 (t := 29) rfl (by have := zt_109; omega) ?_
    refine w_en dX8_putOctet_29 rfl ?_
    exact ⟨_, rfl, hJ0, hb⟩
set_option maxRecDepth 100000 in
theorem u_2106 {X : List Int32} {d N : Nat} {M0 : zM} (a0 : Int32) (hN : N ≤ 600) (hB0 : zB N M0) {Q : zF → Prop} (hb : b_2106 (zi M0) a0.toInt Q) : ZV X (d + 2) 2106 [.ref 0, .int a0] M0 (zRV N [(384, 385, 1000), (0, 1, 13)] M0 (fun M' => Q (zi M'))) := by
  have hJ0 : zJ N [(384, 385, 1000), (0, 1, 13)] M0 M0 := zJ_refl hB0
  refine ZV.of (ini := false) rfl (Nat.le_of_ble_eq_true rfl) (by decide +kernel) ?_
  unfold b_2106 at hb
  replace hb : zHd _ := hb
  show ZW _ _ _ _ _ _ _ (0, [some (.ref 0), some (.int a0)], [], M0)
  refine w_lo dX8_putPair_0 rfl rfl rfl rfl ?_
  refine w_lo dX8_putPair_1 rfl rfl rfl rfl ?_
  refine w_si dX8_putPair_2 (c := 256) (by decide) ?_
  refine w_divT dX8_putPair_5 (by have := zt_256; omega) ?_
  intro x1
  replace hb : zHd _ := hb x1.toInt 
  refine w_iv dX8_putPair_6 rfl rfl (As := [.int x1]) rfl rfl hJ0.1.1 zs_0 (Nat.le_of_ble_eq_true rfl) ?_
  obtain ⟨P4, hp5, hb⟩ := hb
  replace hb : zHd _ := hb
  refine ZV.imp (u_2107 x1 hN hJ0.1 hp5) ?_
  rintro _ ⟨M2, rfl, hJ3, hq6⟩
  replace hb : zHd _ := hb  (zi M2) (zi_fr hJ3.2) hq6
  have hJ8 := zJ_trans hJ0 hJ3 (zSub_cons (fun _ _ h h' hk => zIR_a (by omega) (by omega)) (zSub_cons (fun _ _ h h' hk => zIR_s (zIR_e (by omega) (by omega) hk)) zSub_nil))
  show ZW _ _ _ _ _ _ _ (9, [some (.ref 0), some (.int a0)], [], M2)
  refine w_lo dX8_putPair_9 rfl rfl rfl rfl ?_
  refine w_lo dX8_putPair_10 rfl rfl rfl rfl ?_
  refine w_si dX8_putPair_11 (c := 256) (by decide) ?_
  refine w_remT dX8_putPair_14 (by have := zt_256; omega) ?_
  intro x9
  replace hb : zHd _ := hb x9.toInt 
  refine w_iv dX8_putPair_15 rfl rfl (As := [.int x9]) rfl rfl hJ8.1.1 zs_0 (Nat.le_of_ble_eq_true rfl) ?_
  obtain ⟨P12, hp13, hb⟩ := hb
  replace hb : zHd _ := hb
  refine ZV.imp (u_2107 x9 hN hJ8.1 hp13) ?_
  rintro _ ⟨M10, rfl, hJ11, hq14⟩
  replace hb : zHd _ := hb  (zi M10) (zi_fr hJ11.2) hq14
  have hJ16 := zJ_trans hJ8 hJ11 (zSub_cons (fun _ _ h h' hk => zIR_a (by omega) (by omega)) (zSub_cons (fun _ _ h h' hk => zIR_s (zIR_e (by omega) (by omega) hk)) zSub_nil))
  show ZW _ _ _ _ _ _ _ (18, [some (.ref 0), some (.int a0)], [], M10)
  refine w_en dX8_putPair_18 rfl ?_
  exact ⟨_, rfl, hJ16, hb⟩
set_option maxRecDepth 100000 in
theorem u_2105 {X : List Int32} {d N : Nat} {M0 : zM}  (hN : N ≤ 600) (hB0 : zB N M0) {Q : Int → zF → Prop} (hb : b_2105 (zi M0) Q) : ZV X (d + 3) 2105 [.ref 0] M0 (zRI N [(384, 385, 1000), (0, 1, 13)] M0 (0) (109) (fun v M' => Q v.toInt (zi M'))) := by
  have hJ0 : zJ N [(384, 385, 1000), (0, 1, 13)] M0 M0 := zJ_refl hB0
  refine ZV.of (ini := false) rfl (Nat.le_of_ble_eq_true rfl) (by decide +kernel) ?_
  obtain ⟨I18, I135, hbE, hb18, hb135⟩ := hb
  replace hbE : zHd _ := hbE
  replace hb18 : zHd _ := hb18
  replace hb135 : zHd _ := hb135
  have main : ∀ n : Nat,
      (∀ (M : zM) (v18_1 : Int32) (o18_2 : Option Value), zJ N [(384, 385, 1000), (0, 1, 13)] M0 M → ((0 : Int) ≤ v18_1.toInt) → (v18_1.toInt ≤ 12) → I18 n (zi M) v18_1.toInt → ZW X (d + 2) 8 false (some .int) cX8_image (zRI N [(384, 385, 1000), (0, 1, 13)] M0 (0) (109) (fun v M' => Q v.toInt (zi M'))) (18, [some (.ref 0), some (.int v18_1), o18_2], [], M)) ∧
      (∀ (M : zM) (v135_1 : Int32) (o135_2 : Option Value), zJ N [(384, 385, 1000), (0, 1, 13)] M0 M → ((0 : Int) ≤ v135_1.toInt) → (v135_1.toInt ≤ 11) → I135 n (zi M) v135_1.toInt → ZW X (d + 2) 8 false (some .int) cX8_image (zRI N [(384, 385, 1000), (0, 1, 13)] M0 (0) (109) (fun v M' => Q v.toInt (zi M'))) (135, [some (.ref 0), some (.int v135_1), o135_2], [], M)) := by
    intro n
    induction n using Nat.strongRecOn with
    | _ n ih =>
      refine ⟨?_, ?_⟩
      · intro M v18_1 o18_2 hJ v18_10 v18_11 hI
        have hb : zHd _ := hb18 n (zi M) v18_1.toInt (zi_fr hJ.2) v18_10 v18_11 hI
        refine w_lo dX8_image_18 rfl rfl rfl rfl ?_
        refine w_lo dX8_image_19 rfl rfl rfl rfl ?_
        refine w_gf dX8_image_20 rfl hJ.1.1 zs_0 (zr_0_4 hJ.1) ?_
        refine w_gfi dX8_image_23 rfl hJ.1 zs_49 (Nat.le_of_ble_eq_true rfl) zo_49_0 ?_
        intro x1 f2 h3 h4
        replace hb : zHd _ := hb x1.toInt (ziE f2) h3 h4
        rcases zcut v18_1.toInt x1.toInt with h5 | h5
        · skip
          replace hb : zHd _ := hb.1 h5
          refine w_cge_f dX8_image_26 (t := 133) rfl (by omega) ?_
          refine w_lo dX8_image_29 rfl rfl rfl rfl ?_
          refine w_gf dX8_image_30 rfl hJ.1.1 zs_0 (zr_0_4 hJ.1) ?_
          refine w_gf dX8_image_33 rfl hJ.1.1 zs_49 (zr_49_2 hJ.1) ?_
          refine w_lo dX8_image_36 rfl rfl rfl rfl ?_
          refine w_iai dX8_image_37 hJ.1 zs_50 (by omega) (by omega) zu_50 ?_
          intro x9 f6 h7 h8
          replace hb : zHd _ := hb x9.toInt (ziEk f6 rfl) h7 h8
          refine w_lo (ml' := [some (.ref 0), some (.int v18_1), some (.int x9)]) dX8_image_38 rfl rfl rfl rfl ?_
          refine w_lo dX8_image_39 rfl rfl rfl rfl ?_
          refine w_lo dX8_image_40 rfl rfl rfl rfl ?_
          refine w_iv dX8_image_41 rfl rfl (As := [.int x9]) rfl rfl hJ.1.1 zs_0 (Nat.le_of_ble_eq_true rfl) ?_
          obtain ⟨P12, hp13, hb⟩ := hb
          replace hb : zHd _ := hb
          refine ZV.imp (u_2107 x9 hN hJ.1 hp13) ?_
          rintro _ ⟨M10, rfl, hJ11, hq14⟩
          replace hb : zHd _ := hb  (zi M10) (zi_fr hJ11.2) hq14
          have hJ16 := zJ_trans hJ hJ11 (zSub_cons (fun _ _ h h' hk => zIR_a (by omega) (by omega)) (zSub_cons (fun _ _ h h' hk => zIR_s (zIR_e (by omega) (by omega) hk)) zSub_nil))
          show ZW _ _ _ _ _ _ _ (44, [some (.ref 0), some (.int v18_1), some (.int x9)], [], M10)
          refine w_lo dX8_image_44 rfl rfl rfl rfl ?_
          refine w_lo dX8_image_45 rfl rfl rfl rfl ?_
          refine w_gf dX8_image_46 rfl hJ16.1.1 zs_0 (zr_0_4 hJ16.1) ?_
          refine w_gf dX8_image_49 rfl hJ16.1.1 zs_49 (zr_49_3 hJ16.1) ?_
          refine w_lo dX8_image_52 rfl rfl rfl rfl ?_
          refine w_bai dX8_image_53 hJ16.1 zs_51 (by omega) (by omega) zu_51 ?_
          intro x20 f17 h18 h19
          replace hb : zHd _ := hb x20.toInt (ziEk f17 rfl) h18 h19
          rcases Int.decEq x20.toInt (0 : Int) with h21 | h21
          · skip
            replace hb : zHd _ := hb.1 h21
            refine w_ieq_f dX8_image_54 (t := 61) rfl (by omega) ?_
            refine w_ic dX8_image_57 zi_1 ?_
            refine w_gt dX8_image_58 (t := 62) rfl ?_
            refine w_iv dX8_image_62 rfl rfl (As := [.int 1]) rfl rfl hJ16.1.1 zs_0 (Nat.le_of_ble_eq_true rfl) ?_
            obtain ⟨P24, hp25, hb⟩ := hb
            replace hb : zHd _ := hb
            have hp25c : b_2107 (zi M10) (1 : Int32).toInt P24 := by rw [zt_1]; exact hp25
            refine ZV.imp (u_2107 1 hN hJ16.1 hp25c) ?_
            rintro _ ⟨M22, rfl, hJ23, hq26⟩
            replace hb : zHd _ := hb  (zi M22) (zi_fr hJ23.2) hq26
            have hJ28 := zJ_trans hJ16 hJ23 (zSub_cons (fun _ _ h h' hk => zIR_a (by omega) (by omega)) (zSub_cons (fun _ _ h h' hk => zIR_s (zIR_e (by omega) (by omega) hk)) zSub_nil))
            show ZW _ _ _ _ _ _ _ (65, [some (.ref 0), some (.int v18_1), some (.int x9)], [], M22)
            refine w_lo dX8_image_65 rfl rfl rfl rfl ?_
            refine w_lo dX8_image_66 rfl rfl rfl rfl ?_
            refine w_gf dX8_image_67 rfl hJ28.1.1 zs_0 (zr_0_4 hJ28.1) ?_
            refine w_gf dX8_image_70 rfl hJ28.1.1 zs_49 (zr_49_4 hJ28.1) ?_
            refine w_lo dX8_image_73 rfl rfl rfl rfl ?_
            refine w_iai dX8_image_74 hJ28.1 zs_52 (by omega) (by omega) zu_52 ?_
            intro x32 f29 h30 h31
            replace hb : zHd _ := hb x32.toInt (ziEk f29 rfl) h30 h31
            refine w_ic dX8_image_75 zi_1 ?_
            refine w_add dX8_image_76 (by have := zt_1; omega) ?_
            intro x33 h34
            have := zt_1
            replace hb : zHd _ := hb x33.toInt (by have := zt_1; omega)
            refine w_iv dX8_image_77 rfl rfl (As := [.int x33]) rfl rfl hJ28.1.1 zs_0 (Nat.le_of_ble_eq_true rfl) ?_
            obtain ⟨P37, hp38, hb⟩ := hb
            replace hb : zHd _ := hb
            refine ZV.imp (u_2107 x33 hN hJ28.1 hp38) ?_
            rintro _ ⟨M35, rfl, hJ36, hq39⟩
            replace hb : zHd _ := hb  (zi M35) (zi_fr hJ36.2) hq39
            have hJ41 := zJ_trans hJ28 hJ36 (zSub_cons (fun _ _ h h' hk => zIR_a (by omega) (by omega)) (zSub_cons (fun _ _ h h' hk => zIR_s (zIR_e (by omega) (by omega) hk)) zSub_nil))
            show ZW _ _ _ _ _ _ _ (80, [some (.ref 0), some (.int v18_1), some (.int x9)], [], M35)
            refine w_lo dX8_image_80 rfl rfl rfl rfl ?_
            refine w_lo dX8_image_81 rfl rfl rfl rfl ?_
            refine w_gf dX8_image_82 rfl hJ41.1.1 zs_0 (zr_0_4 hJ41.1) ?_
            refine w_gf dX8_image_85 rfl hJ41.1.1 zs_49 (zr_49_5 hJ41.1) ?_
            refine w_lo dX8_image_88 rfl rfl rfl rfl ?_
            refine w_iai dX8_image_89 hJ41.1 zs_53 (by omega) (by omega) zu_53 ?_
            intro x45 f42 h43 h44
            replace hb : zHd _ := hb x45.toInt (ziEk f42 rfl)
            refine w_iv dX8_image_90 rfl rfl (As := [.int x45]) rfl rfl hJ41.1.1 zs_0 (Nat.le_of_ble_eq_true rfl) ?_
            obtain ⟨P48, hp49, hb⟩ := hb
            replace hb : zHd _ := hb
            refine ZV.imp (u_2107 x45 hN hJ41.1 hp49) ?_
            rintro _ ⟨M46, rfl, hJ47, hq50⟩
            replace hb : zHd _ := hb  (zi M46) (zi_fr hJ47.2) hq50
            have hJ52 := zJ_trans hJ41 hJ47 (zSub_cons (fun _ _ h h' hk => zIR_a (by omega) (by omega)) (zSub_cons (fun _ _ h h' hk => zIR_s (zIR_e (by omega) (by omega) hk)) zSub_nil))
            show ZW _ _ _ _ _ _ _ (93, [some (.ref 0), some (.int v18_1), some (.int x9)], [], M46)
            refine w_lo dX8_image_93 rfl rfl rfl rfl ?_
            refine w_lo dX8_image_94 rfl rfl rfl rfl ?_
            refine w_gf dX8_image_95 rfl hJ52.1.1 zs_0 (zr_0_4 hJ52.1) ?_
            refine w_gf dX8_image_98 rfl hJ52.1.1 zs_49 (zr_49_6 hJ52.1) ?_
            refine w_lo dX8_image_101 rfl rfl rfl rfl ?_
            refine w_iai dX8_image_102 hJ52.1 zs_54 (by omega) (by omega) zu_54 ?_
            intro x56 f53 h54 h55
            replace hb : zHd _ := hb x56.toInt (ziEk f53 rfl) h54 h55
            refine w_ic dX8_image_103 zi_1 ?_
            refine w_add dX8_image_104 (by have := zt_1; omega) ?_
            intro x57 h58
            have := zt_1
            replace hb : zHd _ := hb x57.toInt (by have := zt_1; omega)
            refine w_iv dX8_image_105 rfl rfl (As := [.int x57]) rfl rfl hJ52.1.1 zs_0 (Nat.le_of_ble_eq_true rfl) ?_
            obtain ⟨P61, hp62, hb⟩ := hb
            replace hb : zHd _ := hb
            refine ZV.imp (u_2107 x57 hN hJ52.1 hp62) ?_
            rintro _ ⟨M59, rfl, hJ60, hq63⟩
            replace hb : zHd _ := hb  (zi M59) (zi_fr hJ60.2) hq63
            have hJ65 := zJ_trans hJ52 hJ60 (zSub_cons (fun _ _ h h' hk => zIR_a (by omega) (by omega)) (zSub_cons (fun _ _ h h' hk => zIR_s (zIR_e (by omega) (by omega) hk)) zSub_nil))
            show ZW _ _ _ _ _ _ _ (108, [some (.ref 0), some (.int v18_1), some (.int x9)], [], M59)
            refine w_lo dX8_image_108 rfl rfl rfl rfl ?_
            refine w_lo dX8_image_109 rfl rfl rfl rfl ?_
            refine w_gf dX8_image_110 rfl hJ65.1.1 zs_0 (zr_0_4 hJ65.1) ?_
            refine w_gf dX8_image_113 rfl hJ65.1.1 zs_49 (zr_49_9 hJ65.1) ?_
            refine w_lo dX8_image_116 rfl rfl rfl rfl ?_
            refine w_iai dX8_image_117 hJ65.1 zs_57 (by omega) (by omega) zu_57 ?_
            intro x69 f66 h67 h68
            replace hb : zHd _ := hb x69.toInt (ziEk f66 rfl)
            refine w_si dX8_image_118 (c := 9999) (by decide) ?_
            refine w_mnI dX8_image_121 rfl (Nat.le_of_ble_eq_true rfl) ?_
            intro x70 h71 h72 h73
            have := zt_9999
            replace hb : zHd _ := hb x70.toInt (by omega) (by omega) (by omega)
            show ZW _ _ _ _ _ _ _ (124, [some (.ref 0), some (.int v18_1), some (.int x9)], [.int x70, .ref 0], M59)
            refine w_iv dX8_image_124 rfl rfl (As := [.int x70]) rfl rfl hJ65.1.1 zs_0 (Nat.le_of_ble_eq_true rfl) ?_
            obtain ⟨P76, hp77, hb⟩ := hb
            replace hb : zHd _ := hb
            refine ZV.imp (u_2106 x70 hN hJ65.1 hp77) ?_
            rintro _ ⟨M74, rfl, hJ75, hq78⟩
            replace hb : zHd _ := hb  (zi M74) (zi_fr hJ75.2) hq78
            have hJ80 := zJ_trans hJ65 hJ75 (zSub_cons (fun _ _ h h' hk => zIR_a (by omega) (by omega)) (zSub_cons (fun _ _ h h' hk => zIR_s (zIR_e (by omega) (by omega) hk)) zSub_nil))
            show ZW _ _ _ _ _ _ _ (127, [some (.ref 0), some (.int v18_1), some (.int x9)], [], M74)
            refine w_inc (kk := 1) dX8_image_127 rfl (m := 1) (by decide) (by omega) ?_
            intro x81 h82
            refine ⟨_, rfl, ?_⟩
            replace hb : zHd _ := hb x81.toInt h82
            show ZW _ _ _ _ _ _ _ (130, [some (.ref 0), some (.int x81), some (.int x9)], [], M74)
            refine w_gt dX8_image_130 (t := 18) rfl ?_
            obtain ⟨m, hm, hI⟩ := hb
            exact (ih m hm).1 M74 x81 (some (.int x9)) hJ80 (by omega) (by omega) hI
          · skip
            replace hb : zHd _ := hb.2 h21
            refine w_ieq_t dX8_image_54 (t := 61) rfl (by omega) ?_
            refine w_ic dX8_image_61 zi_0 ?_
            refine w_iv dX8_image_62 rfl rfl (As := [.int 0]) rfl rfl hJ16.1.1 zs_0 (Nat.le_of_ble_eq_true rfl) ?_
            obtain ⟨P85, hp86, hb⟩ := hb
            replace hb : zHd _ := hb
            have hp86c : b_2107 (zi M10) (0 : Int32).toInt P85 := by rw [zt_0]; exact hp86
            refine ZV.imp (u_2107 0 hN hJ16.1 hp86c) ?_
            rintro _ ⟨M83, rfl, hJ84, hq87⟩
            replace hb : zHd _ := hb  (zi M83) (zi_fr hJ84.2) hq87
            have hJ89 := zJ_trans hJ16 hJ84 (zSub_cons (fun _ _ h h' hk => zIR_a (by omega) (by omega)) (zSub_cons (fun _ _ h h' hk => zIR_s (zIR_e (by omega) (by omega) hk)) zSub_nil))
            show ZW _ _ _ _ _ _ _ (65, [some (.ref 0), some (.int v18_1), some (.int x9)], [], M83)
            refine w_lo dX8_image_65 rfl rfl rfl rfl ?_
            refine w_lo dX8_image_66 rfl rfl rfl rfl ?_
            refine w_gf dX8_image_67 rfl hJ89.1.1 zs_0 (zr_0_4 hJ89.1) ?_
            refine w_gf dX8_image_70 rfl hJ89.1.1 zs_49 (zr_49_4 hJ89.1) ?_
            refine w_lo dX8_image_73 rfl rfl rfl rfl ?_
            refine w_iai dX8_image_74 hJ89.1 zs_52 (by omega) (by omega) zu_52 ?_
            intro x93 f90 h91 h92
            replace hb : zHd _ := hb x93.toInt (ziEk f90 rfl) h91 h92
            refine w_ic dX8_image_75 zi_1 ?_
            refine w_add dX8_image_76 (by have := zt_1; omega) ?_
            intro x94 h95
            have := zt_1
            replace hb : zHd _ := hb x94.toInt (by have := zt_1; omega)
            refine w_iv dX8_image_77 rfl rfl (As := [.int x94]) rfl rfl hJ89.1.1 zs_0 (Nat.le_of_ble_eq_true rfl) ?_
            obtain ⟨P98, hp99, hb⟩ := hb
            replace hb : zHd _ := hb
            refine ZV.imp (u_2107 x94 hN hJ89.1 hp99) ?_
            rintro _ ⟨M96, rfl, hJ97, hq100⟩
            replace hb : zHd _ := hb  (zi M96) (zi_fr hJ97.2) hq100
            have hJ102 := zJ_trans hJ89 hJ97 (zSub_cons (fun _ _ h h' hk => zIR_a (by omega) (by omega)) (zSub_cons (fun _ _ h h' hk => zIR_s (zIR_e (by omega) (by omega) hk)) zSub_nil))
            show ZW _ _ _ _ _ _ _ (80, [some (.ref 0), some (.int v18_1), some (.int x9)], [], M96)
            refine w_lo dX8_image_80 rfl rfl rfl rfl ?_
            refine w_lo dX8_image_81 rfl rfl rfl rfl ?_
            refine w_gf dX8_image_82 rfl hJ102.1.1 zs_0 (zr_0_4 hJ102.1) ?_
            refine w_gf dX8_image_85 rfl hJ102.1.1 zs_49 (zr_49_5 hJ102.1) ?_
            refine w_lo dX8_image_88 rfl rfl rfl rfl ?_
            refine w_iai dX8_image_89 hJ102.1 zs_53 (by omega) (by omega) zu_53 ?_
            intro x106 f103 h104 h105
            replace hb : zHd _ := hb x106.toInt (ziEk f103 rfl)
            refine w_iv dX8_image_90 rfl rfl (As := [.int x106]) rfl rfl hJ102.1.1 zs_0 (Nat.le_of_ble_eq_true rfl) ?_
            obtain ⟨P109, hp110, hb⟩ := hb
            replace hb : zHd _ := hb
            refine ZV.imp (u_2107 x106 hN hJ102.1 hp110) ?_
            rintro _ ⟨M107, rfl, hJ108, hq111⟩
            replace hb : zHd _ := hb  (zi M107) (zi_fr hJ108.2) hq111
            have hJ113 := zJ_trans hJ102 hJ108 (zSub_cons (fun _ _ h h' hk => zIR_a (by omega) (by omega)) (zSub_cons (fun _ _ h h' hk => zIR_s (zIR_e (by omega) (by omega) hk)) zSub_nil))
            show ZW _ _ _ _ _ _ _ (93, [some (.ref 0), some (.int v18_1), some (.int x9)], [], M107)
            refine w_lo dX8_image_93 rfl rfl rfl rfl ?_
            refine w_lo dX8_image_94 rfl rfl rfl rfl ?_
            refine w_gf dX8_image_95 rfl hJ113.1.1 zs_0 (zr_0_4 hJ113.1) ?_
            refine w_gf dX8_image_98 rfl hJ113.1.1 zs_49 (zr_49_6 hJ113.1) ?_
            refine w_lo dX8_image_101 rfl rfl rfl rfl ?_
            refine w_iai dX8_image_102 hJ113.1 zs_54 (by omega) (by omega) zu_54 ?_
            intro x117 f114 h115 h116
            replace hb : zHd _ := hb x117.toInt (ziEk f114 rfl) h115 h116
            refine w_ic dX8_image_103 zi_1 ?_
            refine w_add dX8_image_104 (by have := zt_1; omega) ?_
            intro x118 h119
            have := zt_1
            replace hb : zHd _ := hb x118.toInt (by have := zt_1; omega)
            refine w_iv dX8_image_105 rfl rfl (As := [.int x118]) rfl rfl hJ113.1.1 zs_0 (Nat.le_of_ble_eq_true rfl) ?_
            obtain ⟨P122, hp123, hb⟩ := hb
            replace hb : zHd _ := hb
            refine ZV.imp (u_2107 x118 hN hJ113.1 hp123) ?_
            rintro _ ⟨M120, rfl, hJ121, hq124⟩
            replace hb : zHd _ := hb  (zi M120) (zi_fr hJ121.2) hq124
            have hJ126 := zJ_trans hJ113 hJ121 (zSub_cons (fun _ _ h h' hk => zIR_a (by omega) (by omega)) (zSub_cons (fun _ _ h h' hk => zIR_s (zIR_e (by omega) (by omega) hk)) zSub_nil))
            show ZW _ _ _ _ _ _ _ (108, [some (.ref 0), some (.int v18_1), some (.int x9)], [], M120)
            refine w_lo dX8_image_108 rfl rfl rfl rfl ?_
            refine w_lo dX8_image_109 rfl rfl rfl rfl ?_
            refine w_gf dX8_image_110 rfl hJ126.1.1 zs_0 (zr_0_4 hJ126.1) ?_
            refine w_gf dX8_image_113 rfl hJ126.1.1 zs_49 (zr_49_9 hJ126.1) ?_
            refine w_lo dX8_image_116 rfl rfl rfl rfl ?_
            refine w_iai dX8_image_117 hJ126.1 zs_57 (by omega) (by omega) zu_57 ?_
            intro x130 f127 h128 h129
            replace hb : zHd _ := hb x130.toInt (ziEk f127 rfl)
            refine w_si dX8_image_118 (c := 9999) (by decide) ?_
            refine w_mnI dX8_image_121 rfl (Nat.le_of_ble_eq_true rfl) ?_
            intro x131 h132 h133 h134
            have := zt_9999
            replace hb : zHd _ := hb x131.toInt (by omega) (by omega) (by omega)
            show ZW _ _ _ _ _ _ _ (124, [some (.ref 0), some (.int v18_1), some (.int x9)], [.int x131, .ref 0], M120)
            refine w_iv dX8_image_124 rfl rfl (As := [.int x131]) rfl rfl hJ126.1.1 zs_0 (Nat.le_of_ble_eq_true rfl) ?_
            obtain ⟨P137, hp138, hb⟩ := hb
            replace hb : zHd _ := hb
            refine ZV.imp (u_2106 x131 hN hJ126.1 hp138) ?_
            rintro _ ⟨M135, rfl, hJ136, hq139⟩
            replace hb : zHd _ := hb  (zi M135) (zi_fr hJ136.2) hq139
            have hJ141 := zJ_trans hJ126 hJ136 (zSub_cons (fun _ _ h h' hk => zIR_a (by omega) (by omega)) (zSub_cons (fun _ _ h h' hk => zIR_s (zIR_e (by omega) (by omega) hk)) zSub_nil))
            show ZW _ _ _ _ _ _ _ (127, [some (.ref 0), some (.int v18_1), some (.int x9)], [], M135)
            refine w_inc (kk := 1) dX8_image_127 rfl (m := 1) (by decide) (by omega) ?_
            intro x142 h143
            refine ⟨_, rfl, ?_⟩
            replace hb : zHd _ := hb x142.toInt h143
            show ZW _ _ _ _ _ _ _ (130, [some (.ref 0), some (.int x142), some (.int x9)], [], M135)
            refine w_gt dX8_image_130 (t := 18) rfl ?_
            obtain ⟨m, hm, hI⟩ := hb
            exact (ih m hm).1 M135 x142 (some (.int x9)) hJ141 (by omega) (by omega) hI
        · skip
          replace hb : zHd _ := hb.2 h5
          refine w_cge_t dX8_image_26 (t := 133) rfl (by omega) ?_
          refine w_ic dX8_image_133 zi_0 ?_
          refine w_lo (ml' := [some (.ref 0), some (.int 0), o18_2]) dX8_image_134 rfl rfl rfl rfl ?_
          obtain ⟨m, hm, hI⟩ := hb
          exact (ih m hm).2 M 0 o18_2 hJ (by have := zt_0; omega) (by have := zt_0; omega) hI
      · intro M v135_1 o135_2 hJ v135_10 v135_11 hI
        have hb : zHd _ := hb135 n (zi M) v135_1.toInt (zi_fr hJ.2) v135_10 v135_11 hI
        refine w_lo dX8_image_135 rfl rfl rfl rfl ?_
        refine w_lo dX8_image_136 rfl rfl rfl rfl ?_
        refine w_gf dX8_image_137 rfl hJ.1.1 zs_0 (zr_0_4 hJ.1) ?_
        refine w_gfi dX8_image_140 rfl hJ.1 zs_49 (Nat.le_of_ble_eq_true rfl) zo_49_0 ?_
        intro x144 f145 h146 h147
        replace hb : zHd _ := hb x144.toInt (ziE f145) h146 h147
        refine w_ic dX8_image_143 zi_1 ?_
        refine w_sub dX8_image_144 (by have := zt_1; omega) ?_
        intro x148 h149
        have := zt_1
        replace hb : zHd _ := hb x148.toInt (by have := zt_1; omega)
        rcases zcut v135_1.toInt x148.toInt with h150 | h150
        · skip
          replace hb : zHd _ := hb.1 h150
          refine w_cge_f dX8_image_145 (t := 188) rfl (by omega) ?_
          refine w_lo dX8_image_148 rfl rfl rfl rfl ?_
          refine w_lo dX8_image_149 rfl rfl rfl rfl ?_
          refine w_gf dX8_image_150 rfl hJ.1.1 zs_0 (zr_0_4 hJ.1) ?_
          refine w_gf dX8_image_153 rfl hJ.1.1 zs_49 (zr_49_12 hJ.1) ?_
          refine w_lo dX8_image_156 rfl rfl rfl rfl ?_
          refine w_bai dX8_image_157 hJ.1 zs_60 (by omega) (by omega) zu_60 ?_
          intro x154 f151 h152 h153
          replace hb : zHd _ := hb x154.toInt (ziEk f151 rfl) h152 h153
          rcases Int.decEq x154.toInt (0 : Int) with h155 | h155
          · skip
            replace hb : zHd _ := hb.1 h155
            refine w_ieq_f dX8_image_158 (t := 165) rfl (by omega) ?_
            refine w_ic dX8_image_161 zi_1 ?_
            refine w_gt dX8_image_162 (t := 166) rfl ?_
            refine w_iv dX8_image_166 rfl rfl (As := [.int 1]) rfl rfl hJ.1.1 zs_0 (Nat.le_of_ble_eq_true rfl) ?_
            obtain ⟨P158, hp159, hb⟩ := hb
            replace hb : zHd _ := hb
            have hp159c : b_2107 (zi M) (1 : Int32).toInt P158 := by rw [zt_1]; exact hp159
            refine ZV.imp (u_2107 1 hN hJ.1 hp159c) ?_
            rintro _ ⟨M156, rfl, hJ157, hq160⟩
            replace hb : zHd _ := hb  (zi M156) (zi_fr hJ157.2) hq160
            have hJ162 := zJ_trans hJ hJ157 (zSub_cons (fun _ _ h h' hk => zIR_a (by omega) (by omega)) (zSub_cons (fun _ _ h h' hk => zIR_s (zIR_e (by omega) (by omega) hk)) zSub_nil))
            show ZW _ _ _ _ _ _ _ (169, [some (.ref 0), some (.int v135_1), o135_2], [], M156)
            refine w_lo dX8_image_169 rfl rfl rfl rfl ?_
            refine w_lo dX8_image_170 rfl rfl rfl rfl ?_
            refine w_gf dX8_image_171 rfl hJ162.1.1 zs_0 (zr_0_4 hJ162.1) ?_
            refine w_gf dX8_image_174 rfl hJ162.1.1 zs_49 (zr_49_13 hJ162.1) ?_
            refine w_lo dX8_image_177 rfl rfl rfl rfl ?_
            refine w_iai dX8_image_178 hJ162.1 zs_61 (by omega) (by omega) zu_61 ?_
            intro x166 f163 h164 h165
            replace hb : zHd _ := hb x166.toInt (ziEk f163 rfl) h164 h165
            refine w_iv dX8_image_179 rfl rfl (As := [.int x166]) rfl rfl hJ162.1.1 zs_0 (Nat.le_of_ble_eq_true rfl) ?_
            obtain ⟨P169, hp170, hb⟩ := hb
            replace hb : zHd _ := hb
            refine ZV.imp (u_2107 x166 hN hJ162.1 hp170) ?_
            rintro _ ⟨M167, rfl, hJ168, hq171⟩
            replace hb : zHd _ := hb  (zi M167) (zi_fr hJ168.2) hq171
            have hJ173 := zJ_trans hJ162 hJ168 (zSub_cons (fun _ _ h h' hk => zIR_a (by omega) (by omega)) (zSub_cons (fun _ _ h h' hk => zIR_s (zIR_e (by omega) (by omega) hk)) zSub_nil))
            show ZW _ _ _ _ _ _ _ (182, [some (.ref 0), some (.int v135_1), o135_2], [], M167)
            refine w_inc (kk := 1) dX8_image_182 rfl (m := 1) (by decide) (by omega) ?_
            intro x174 h175
            refine ⟨_, rfl, ?_⟩
            replace hb : zHd _ := hb x174.toInt h175
            show ZW _ _ _ _ _ _ _ (185, [some (.ref 0), some (.int x174), o135_2], [], M167)
            refine w_gt dX8_image_185 (t := 135) rfl ?_
            obtain ⟨m, hm, hI⟩ := hb
            exact (ih m hm).2 M167 x174 o135_2 hJ173 (by omega) (by omega) hI
          · skip
            replace hb : zHd _ := hb.2 h155
            refine w_ieq_t dX8_image_158 (t := 165) rfl (by omega) ?_
            refine w_ic dX8_image_165 zi_0 ?_
            refine w_iv dX8_image_166 rfl rfl (As := [.int 0]) rfl rfl hJ.1.1 zs_0 (Nat.le_of_ble_eq_true rfl) ?_
            obtain ⟨P178, hp179, hb⟩ := hb
            replace hb : zHd _ := hb
            have hp179c : b_2107 (zi M) (0 : Int32).toInt P178 := by rw [zt_0]; exact hp179
            refine ZV.imp (u_2107 0 hN hJ.1 hp179c) ?_
            rintro _ ⟨M176, rfl, hJ177, hq180⟩
            replace hb : zHd _ := hb  (zi M176) (zi_fr hJ177.2) hq180
            have hJ182 := zJ_trans hJ hJ177 (zSub_cons (fun _ _ h h' hk => zIR_a (by omega) (by omega)) (zSub_cons (fun _ _ h h' hk => zIR_s (zIR_e (by omega) (by omega) hk)) zSub_nil))
            show ZW _ _ _ _ _ _ _ (169, [some (.ref 0), some (.int v135_1), o135_2], [], M176)
            refine w_lo dX8_image_169 rfl rfl rfl rfl ?_
            refine w_lo dX8_image_170 rfl rfl rfl rfl ?_
            refine w_gf dX8_image_171 rfl hJ182.1.1 zs_0 (zr_0_4 hJ182.1) ?_
            refine w_gf dX8_image_174 rfl hJ182.1.1 zs_49 (zr_49_13 hJ182.1) ?_
            refine w_lo dX8_image_177 rfl rfl rfl rfl ?_
            refine w_iai dX8_image_178 hJ182.1 zs_61 (by omega) (by omega) zu_61 ?_
            intro x186 f183 h184 h185
            replace hb : zHd _ := hb x186.toInt (ziEk f183 rfl) h184 h185
            refine w_iv dX8_image_179 rfl rfl (As := [.int x186]) rfl rfl hJ182.1.1 zs_0 (Nat.le_of_ble_eq_true rfl) ?_
            obtain ⟨P189, hp190, hb⟩ := hb
            replace hb : zHd _ := hb
            refine ZV.imp (u_2107 x186 hN hJ182.1 hp190) ?_
            rintro _ ⟨M187, rfl, hJ188, hq191⟩
            replace hb : zHd _ := hb  (zi M187) (zi_fr hJ188.2) hq191
            have hJ193 := zJ_trans hJ182 hJ188 (zSub_cons (fun _ _ h h' hk => zIR_a (by omega) (by omega)) (zSub_cons (fun _ _ h h' hk => zIR_s (zIR_e (by omega) (by omega) hk)) zSub_nil))
            show ZW _ _ _ _ _ _ _ (182, [some (.ref 0), some (.int v135_1), o135_2], [], M187)
            refine w_inc (kk := 1) dX8_image_182 rfl (m := 1) (by decide) (by omega) ?_
            intro x194 h195
            refine ⟨_, rfl, ?_⟩
            replace hb : zHd _ := hb x194.toInt h195
            show ZW _ _ _ _ _ _ _ (185, [some (.ref 0), some (.int x194), o135_2], [], M187)
            refine w_gt dX8_image_185 (t := 135) rfl ?_
            obtain ⟨m, hm, hI⟩ := hb
            exact (ih m hm).2 M187 x194 o135_2 hJ193 (by omega) (by omega) hI
        · skip
          replace hb : zHd _ := hb.2 h150
          refine w_cge_t dX8_image_145 (t := 188) rfl (by omega) ?_
          refine w_lo dX8_image_188 rfl rfl rfl rfl ?_
          refine w_lo dX8_image_189 rfl rfl rfl rfl ?_
          refine w_gf dX8_image_190 rfl hJ.1.1 zs_0 (zr_0_12 hJ.1) ?_
          refine w_lo dX8_image_193 rfl rfl rfl rfl ?_
          refine w_gfi dX8_image_194 rfl hJ.1 zs_0 (Nat.le_of_ble_eq_true rfl) zo_0_13 ?_
          intro x196 f197 h198 h199
          replace hb : zHd _ := hb x196.toInt (ziE f197) h198 h199
          refine w_ss dX8_image_197 rfl rfl (As := [.ref 384, .int x196]) rfl rfl (Nat.le_of_ble_eq_true rfl) ?_
          refine ZV.imp (k_2108 384 _ _ _ zs_384 zu_384 (Nat.le_of_ble_eq_true rfl) (by decide) (by decide) x196 (by omega) (by omega) hN hJ.1) ?_
          rintro _ ⟨x203, M200, rfl, h204, h205, hJ201, hq202⟩
          replace hb : zHd _ := hb x203.toInt  (zi M200) (zi_fr hJ201.2)
          have hJ207 := zJ_trans hJ hJ201 zSub_nil
          show ZW _ _ _ _ _ _ _ (200, [some (.ref 0), some (.int v135_1), o135_2], [.int x203, .ref 0], M200)
          refine w_iv dX8_image_200 rfl rfl (As := [.int x203]) rfl rfl hJ207.1.1 zs_0 (Nat.le_of_ble_eq_true rfl) ?_
          obtain ⟨P210, hp211, hb⟩ := hb
          replace hb : zHd _ := hb
          refine ZV.imp (u_2107 x203 hN hJ207.1 hp211) ?_
          rintro _ ⟨M208, rfl, hJ209, hq212⟩
          replace hb : zHd _ := hb  (zi M208) (zi_fr hJ209.2) hq212
          have hJ214 := zJ_trans hJ207 hJ209 (zSub_cons (fun _ _ h h' hk => zIR_a (by omega) (by omega)) (zSub_cons (fun _ _ h h' hk => zIR_s (zIR_e (by omega) (by omega) hk)) zSub_nil))
          show ZW _ _ _ _ _ _ _ (203, [some (.ref 0), some (.int v135_1), o135_2], [], M208)
          refine w_lo dX8_image_203 rfl rfl rfl rfl ?_
          refine w_gfi dX8_image_204 rfl hJ214.1 zs_0 (Nat.le_of_ble_eq_true rfl) zo_0_13 ?_
          intro x215 f216 h217 h218
          replace hb : zHd _ := hb x215.toInt (ziE f216) h217 h218
          refine w_eni dX8_image_207 rfl rfl ?_
          exact ⟨_, _, rfl, (by omega), (by omega), hJ214, hb⟩
  have hb : zHd _ := hbE
  show ZW _ _ _ _ _ _ _ (0, [some (.ref 0), none, none], [], M0)
  refine w_lo dX8_image_0 rfl rfl rfl rfl ?_
  refine w_ic dX8_image_1 zi_0 ?_
  refine w_pfi dX8_image_2 rfl hJ0 zs_0 (Nat.le_of_ble_eq_true rfl) zo_0_13 (by have := zt_0; omega) (by have := zt_0; omega) (zIR_s (zIR_k (by omega) (by omega))) rfl rfl rfl ?_
  intro M219 hJ220 f221 hn222
  replace hb : zHd _ := hb (zi M219) (zi_zup hn222 f221 rfl zt_0)
  refine w_lo dX8_image_5 rfl rfl rfl rfl ?_
  refine w_lo dX8_image_6 rfl rfl rfl rfl ?_
  refine w_gf dX8_image_7 rfl hJ220.1.1 zs_0 (zr_0_4 hJ220.1) ?_
  refine w_gfi dX8_image_10 rfl hJ220.1 zs_49 (Nat.le_of_ble_eq_true rfl) zo_49_1 ?_
  intro x224 f225 h226 h227
  replace hb : zHd _ := hb x224.toInt (ziE f225)
  refine w_iv dX8_image_13 rfl rfl (As := [.int x224]) rfl rfl hJ220.1.1 zs_0 (Nat.le_of_ble_eq_true rfl) ?_
  obtain ⟨P230, hp231, hb⟩ := hb
  replace hb : zHd _ := hb
  refine ZV.imp (u_2106 x224 hN hJ220.1 hp231) ?_
  rintro _ ⟨M228, rfl, hJ229, hq232⟩
  replace hb : zHd _ := hb  (zi M228) (zi_fr hJ229.2) hq232
  have hJ234 := zJ_trans hJ220 hJ229 (zSub_cons (fun _ _ h h' hk => zIR_a (by omega) (by omega)) (zSub_cons (fun _ _ h h' hk => zIR_s (zIR_e (by omega) (by omega) hk)) zSub_nil))
  show ZW _ _ _ _ _ _ _ (16, [some (.ref 0), none, none], [], M228)
  refine w_ic dX8_image_16 zi_0 ?_
  refine w_lo (ml' := [some (.ref 0), some (.int 0), none]) dX8_image_17 rfl rfl rfl rfl ?_
  obtain ⟨m, hI⟩ := hb
  exact (main m).1 M228 0 none hJ234 (by have := zt_0; omega) (by have := zt_0; omega) hI
set_option maxRecDepth 100000 in
theorem u_2423 {X : List Int32} {d N : Nat} {M0 : zM}  (hN : N ≤ 600) (hB0 : zB N M0) {Q : Int → zF → Prop} (hb : b_2423 (zi M0) Q) : ZV X (d + 2) 2423 [.ref 386] M0 (zRI N [(439, 440, 1000), (386, 387, 81)] M0 (1) (198) (fun v M' => Q v.toInt (zi M'))) := by
  have hJ0 : zJ N [(439, 440, 1000), (386, 387, 81)] M0 M0 := zJ_refl hB0
  refine ZV.of (ini := false) rfl (Nat.le_of_ble_eq_true rfl) (by decide +kernel) ?_
  obtain ⟨I30, I69, I140, I181, hbE, hb30, hb69, hb140, hb181⟩ := hb
  replace hbE : zHd _ := hbE
  replace hb30 : zHd _ := hb30
  replace hb69 : zHd _ := hb69
  replace hb140 : zHd _ := hb140
  replace hb181 : zHd _ := hb181
  have main : ∀ n : Nat,
      (∀ (M : zM) (v30_1 : Int32) (o30_2 : Option Value) (o30_3 : Option Value), zJ N [(439, 440, 1000), (386, 387, 81)] M0 M → ((0 : Int) ≤ v30_1.toInt) → (v30_1.toInt ≤ 12) → I30 n (zi M) v30_1.toInt → ZW X (d + 1) 9 false (some .int) cX9_image (zRI N [(439, 440, 1000), (386, 387, 81)] M0 (1) (198) (fun v M' => Q v.toInt (zi M'))) (30, [some (.ref 386), some (.int v30_1), o30_2, o30_3], [], M)) ∧
      (∀ (M : zM) (v69_1 : Int32) (v69_2 : Int32) (o69_3 : Option Value) (s69_0 : Int32), zJ N [(439, 440, 1000), (386, 387, 81)] M0 M → ((0 : Int) ≤ v69_1.toInt) → (v69_1.toInt ≤ 11) → ((0 : Int) ≤ v69_2.toInt) → (v69_2.toInt ≤ 11) → ((-2147483648 : Int) ≤ s69_0.toInt) → (s69_0.toInt ≤ 9999) → I69 n (zi M) v69_1.toInt v69_2.toInt s69_0.toInt → ZW X (d + 1) 9 false (some .int) cX9_image (zRI N [(439, 440, 1000), (386, 387, 81)] M0 (1) (198) (fun v M' => Q v.toInt (zi M'))) (69, [some (.ref 386), some (.int v69_1), some (.int v69_2), o69_3], [.int s69_0], M)) ∧
      (∀ (M : zM) (v140_1 : Int32) (o140_2 : Option Value) (o140_3 : Option Value), zJ N [(439, 440, 1000), (386, 387, 81)] M0 M → ((0 : Int) ≤ v140_1.toInt) → (v140_1.toInt ≤ 11) → I140 n (zi M) v140_1.toInt → ZW X (d + 1) 9 false (some .int) cX9_image (zRI N [(439, 440, 1000), (386, 387, 81)] M0 (1) (198) (fun v M' => Q v.toInt (zi M'))) (140, [some (.ref 386), some (.int v140_1), o140_2, o140_3], [], M)) ∧
      (∀ (M : zM) (v181_1 : Int32) (v181_2 : Int32) (o181_3 : Option Value), zJ N [(439, 440, 1000), (386, 387, 81)] M0 M → ((0 : Int) ≤ v181_1.toInt) → (v181_1.toInt ≤ 250) → ((0 : Int) ≤ v181_2.toInt) → (v181_2.toInt ≤ 198) → I181 n (zi M) v181_1.toInt v181_2.toInt → ZW X (d + 1) 9 false (some .int) cX9_image (zRI N [(439, 440, 1000), (386, 387, 81)] M0 (1) (198) (fun v M' => Q v.toInt (zi M'))) (181, [some (.ref 386), some (.int v181_1), some (.int v181_2), o181_3], [], M)) := by
    intro n
    induction n using Nat.strongRecOn with
    | _ n ih =>
      refine ⟨?_, ?_, ?_, ?_⟩
      · intro M v30_1 o30_2 o30_3 hJ v30_10 v30_11 hI
        have hb : zHd _ := hb30 n (zi M) v30_1.toInt (zi_fr hJ.2) v30_10 v30_11 hI
        refine w_lo dX9_image_30 rfl rfl rfl rfl ?_
        refine w_lo dX9_image_31 rfl rfl rfl rfl ?_
        refine w_iv dX9_image_32 rfl rfl (As := []) rfl rfl hJ.1.1 zs_386 (Nat.le_of_ble_eq_true rfl) ?_
        refine ZV.of (ini := false) rfl (Nat.le_of_ble_eq_true rfl) (by decide +kernel) ?_
        show ZW _ _ _ _ _ _ _ (0, [some (.ref 386)], [], M)
        refine w_lo dX9_many_0 rfl rfl rfl rfl ?_
        refine w_gf dX9_many_1 rfl hJ.1.1 zs_386 (zr_386_13 hJ.1) ?_
        refine w_lo dX9_many_4 rfl rfl rfl rfl ?_
        refine w_gfi dX9_many_5 rfl hJ.1 zs_386 (Nat.le_of_ble_eq_true rfl) zo_386_12 ?_
        intro x1 f2 h3 h4
        replace hb : zHd _ := hb x1.toInt (ziE f2) h3 h4
        refine w_iai dX9_many_8 hJ.1 zs_388 (by omega) (by omega) zu_388 ?_
        intro x8 f5 h6 h7
        replace hb : zHd _ := hb x8.toInt (ziEk f5 rfl) h6 h7
        refine w_eni dX9_many_9 rfl rfl ?_
        show ZW _ _ _ _ _ _ _ (35, [some (.ref 386), some (.int v30_1), o30_2, o30_3], [.int x8, .int v30_1], M)
        rcases zcut v30_1.toInt x8.toInt with h9 | h9
        · skip
          replace hb : zHd _ := hb.1 h9
          refine w_cge_f dX9_image_35 (t := 138) rfl (by omega) ?_
          refine w_lo dX9_image_38 rfl rfl rfl rfl ?_
          refine w_gf dX9_image_39 rfl hJ.1.1 zs_386 (zr_386_50 hJ.1) ?_
          refine w_lo dX9_image_42 rfl rfl rfl rfl ?_
          refine w_iai dX9_image_43 hJ.1 zs_419 (by omega) (by omega) zu_419 ?_
          intro x13 f10 h11 h12
          replace hb : zHd _ := hb x13.toInt (ziEk f10 rfl) h11 h12
          refine w_lo (ml' := [some (.ref 386), some (.int v30_1), some (.int x13), o30_3]) dX9_image_44 rfl rfl rfl rfl ?_
          refine w_lo dX9_image_45 rfl rfl rfl rfl ?_
          refine w_gf dX9_image_46 rfl hJ.1.1 zs_386 (zr_386_57 hJ.1) ?_
          refine w_lo dX9_image_49 rfl rfl rfl rfl ?_
          refine w_iai dX9_image_50 hJ.1 zs_426 (by omega) (by omega) zu_426 ?_
          intro x17 f14 h15 h16
          replace hb : zHd _ := hb x17.toInt (ziEk f14 rfl)
          refine w_si dX9_image_51 (c := 9999) (by decide) ?_
          rcases zcut (9999 : Int) x17.toInt with h18 | h18
          · skip
            replace hb : zHd _ := hb.1 h18
            refine w_cle_f dX9_image_54 (t := 63) rfl (by have := zt_9999; omega) ?_
            refine w_si dX9_image_57 (c := 9999) (by decide) ?_
            refine w_gt dX9_image_60 (t := 69) rfl ?_
            obtain ⟨m, hm, hI⟩ := hb
            exact (ih m hm).2.1 M v30_1 x13 o30_3 9999 hJ (by omega) (by omega) (by omega) (by omega) (zbot _) (by have := zt_9999; omega) hI
          · skip
            replace hb : zHd _ := hb.2 h18
            refine w_cle_t dX9_image_54 (t := 63) rfl (by have := zt_9999; omega) ?_
            refine w_lo dX9_image_63 rfl rfl rfl rfl ?_
            refine w_gf dX9_image_64 rfl hJ.1.1 zs_386 (zr_386_57 hJ.1) ?_
            refine w_lo dX9_image_67 rfl rfl rfl rfl ?_
            refine w_ia dX9_image_68 hJ.1.1 zs_426 (znat (by omega)) f14 ?_
            obtain ⟨m, hm, hI⟩ := hb
            exact (ih m hm).2.1 M v30_1 x13 o30_3 x17 hJ (by omega) (by omega) (by omega) (by omega) (zbot _) (by omega) hI
        · skip
          replace hb : zHd _ := hb.2 h9
          refine w_cge_t dX9_image_35 (t := 138) rfl (by omega) ?_
          refine w_ic dX9_image_138 zi_0 ?_
          refine w_lo (ml' := [some (.ref 386), some (.int 0), o30_2, o30_3]) dX9_image_139 rfl rfl rfl rfl ?_
          obtain ⟨m, hm, hI⟩ := hb
          exact (ih m hm).2.2.1 M 0 o30_2 o30_3 hJ (by have := zt_0; omega) (by have := zt_0; omega) hI
      · intro M v69_1 v69_2 o69_3 s69_0 hJ v69_10 v69_11 v69_20 v69_21 s69_00 s69_01 hI
        have hb : zHd _ := hb69 n (zi M) v69_1.toInt v69_2.toInt s69_0.toInt (zi_fr hJ.2) v69_10 v69_11 v69_20 v69_21 s69_01 hI
        refine w_lo (ml' := [some (.ref 386), some (.int v69_1), some (.int v69_2), some (.int s69_0)]) dX9_image_69 rfl rfl rfl rfl ?_
        refine w_lo dX9_image_70 rfl rfl rfl rfl ?_
        refine w_lo dX9_image_71 rfl rfl rfl rfl ?_
        refine w_iv dX9_image_72 rfl rfl (As := [.int v69_2]) rfl rfl hJ.1.1 zs_386 (Nat.le_of_ble_eq_true rfl) ?_
        refine ZV.of (ini := false) rfl (Nat.le_of_ble_eq_true rfl) (by decide +kernel) ?_
        show ZW _ _ _ _ _ _ _ (0, [some (.ref 386), some (.int v69_2)], [], M)
        refine w_lo dX9_writes_0 rfl rfl rfl rfl ?_
        refine w_gf dX9_writes_1 rfl hJ.1.1 zs_386 (zr_386_80 hJ.1) ?_
        refine w_lo dX9_writes_4 rfl rfl rfl rfl ?_
        refine w_gfi dX9_writes_5 rfl hJ.1 zs_386 (Nat.le_of_ble_eq_true rfl) zo_386_81 ?_
        intro x22 f23 h24 h25
        replace hb : zHd _ := hb x22.toInt (ziE f23) h24 h25
        refine w_lo dX9_writes_8 rfl rfl rfl rfl ?_
        refine w_si dX9_writes_9 (c := 255) (by decide) ?_
        refine w_and dX9_writes_12 (m := 255) zt_255 (by omega) ?_
        intro x26 h27 h28
        replace hb : zHd _ := hb x26.toInt h27 h28
        have h29 := hb.1
        replace hb : zHd _ := hb.2
        refine w_isi dX9_writes_13 hJ zs_439 (by omega) (by omega) zu_439 (by omega) (by omega) (zIR_a (by omega) (by omega)) ?_
        intro M30 hJ31 f32 hn33
        replace hb : zHd _ := hb (zi M30) (zi_zup hn33 f32 rfl rfl)
        refine w_lo dX9_writes_14 rfl rfl rfl rfl ?_
        refine w_pu dX9_writes_15 rfl rfl ?_
        have f35 := (hn33 (386) 81 (Or.inl (by omega))).trans (f23)
        refine w_gf dX9_writes_16 rfl hJ31.1.1 zs_386 f35 ?_
        refine w_ic dX9_writes_19 zi_1 ?_
        refine w_add dX9_writes_20 (by have := zt_1; omega) ?_
        intro x36 h37
        have := zt_1
        replace hb : zHd _ := hb x36.toInt (by have := zt_1; omega)
        refine w_pfi dX9_writes_21 rfl hJ31 zs_386 (Nat.le_of_ble_eq_true rfl) zo_386_81 (by omega) (by omega) (zIR_s (zIR_k (by omega) (by omega))) rfl rfl rfl ?_
        intro M38 hJ39 f40 hn41
        replace hb : zHd _ := hb (zi M38) (zi_zup hn41 f40 rfl rfl)
        refine w_en dX9_writes_24 rfl ?_
        show ZW _ _ _ _ _ _ _ (75, [some (.ref 386), some (.int v69_1), some (.int v69_2), some (.int s69_0)], [], M38)
        refine w_lo dX9_image_75 rfl rfl rfl rfl ?_
        refine w_lo dX9_image_76 rfl rfl rfl rfl ?_
        refine w_gf dX9_image_77 rfl hJ39.1.1 zs_386 (zr_386_51 hJ39.1) ?_
        refine w_lo dX9_image_80 rfl rfl rfl rfl ?_
        refine w_iai dX9_image_81 hJ39.1 zs_420 (by omega) (by omega) zu_420 ?_
        intro x46 f43 h44 h45
        replace hb : zHd _ := hb x46.toInt (ziEk f43 rfl) h44 h45
        refine w_iv dX9_image_82 rfl rfl (As := [.int x46]) rfl rfl hJ39.1.1 zs_386 (Nat.le_of_ble_eq_true rfl) ?_
        refine ZV.of (ini := false) rfl (Nat.le_of_ble_eq_true rfl) (by decide +kernel) ?_
        show ZW _ _ _ _ _ _ _ (0, [some (.ref 386), some (.int x46)], [], M38)
        refine w_lo dX9_writes_0 rfl rfl rfl rfl ?_
        refine w_gf dX9_writes_1 rfl hJ39.1.1 zs_386 (zr_386_80 hJ39.1) ?_
        refine w_lo dX9_writes_4 rfl rfl rfl rfl ?_
        refine w_gf dX9_writes_5 rfl hJ39.1.1 zs_386 f40 ?_
        refine w_lo dX9_writes_8 rfl rfl rfl rfl ?_
        refine w_si dX9_writes_9 (c := 255) (by decide) ?_
        refine w_and dX9_writes_12 (m := 255) zt_255 (by omega) ?_
        intro x47 h48 h49
        replace hb : zHd _ := hb x47.toInt h48 h49
        have h50 := hb.1
        replace hb : zHd _ := hb.2
        refine w_isi dX9_writes_13 hJ39 zs_439 (by omega) (by omega) zu_439 (by omega) (by omega) (zIR_a (by omega) (by omega)) ?_
        intro M51 hJ52 f53 hn54
        replace hb : zHd _ := hb (zi M51) (zi_zup hn54 f53 rfl rfl)
        refine w_lo dX9_writes_14 rfl rfl rfl rfl ?_
        refine w_pu dX9_writes_15 rfl rfl ?_
        have f56 := (hn54 (386) 81 (Or.inl (by omega))).trans (f40)
        refine w_gf dX9_writes_16 rfl hJ52.1.1 zs_386 f56 ?_
        refine w_ic dX9_writes_19 zi_1 ?_
        refine w_add dX9_writes_20 (by have := zt_1; omega) ?_
        intro x57 h58
        have := zt_1
        replace hb : zHd _ := hb x57.toInt (by have := zt_1; omega)
        refine w_pfi dX9_writes_21 rfl hJ52 zs_386 (Nat.le_of_ble_eq_true rfl) zo_386_81 (by omega) (by omega) (zIR_s (zIR_k (by omega) (by omega))) rfl rfl rfl ?_
        intro M59 hJ60 f61 hn62
        replace hb : zHd _ := hb (zi M59) (zi_zup hn62 f61 rfl rfl)
        refine w_en dX9_writes_24 rfl ?_
        show ZW _ _ _ _ _ _ _ (85, [some (.ref 386), some (.int v69_1), some (.int v69_2), some (.int s69_0)], [], M59)
        refine w_lo dX9_image_85 rfl rfl rfl rfl ?_
        refine w_lo dX9_image_86 rfl rfl rfl rfl ?_
        refine w_gf dX9_image_87 rfl hJ60.1.1 zs_386 (zr_386_52 hJ60.1) ?_
        refine w_lo dX9_image_90 rfl rfl rfl rfl ?_
        refine w_iai dX9_image_91 hJ60.1 zs_421 (by omega) (by omega) zu_421 ?_
        intro x67 f64 h65 h66
        replace hb : zHd _ := hb x67.toInt (ziEk f64 rfl) h65 h66
        refine w_ic dX9_image_92 zi_1 ?_
        refine w_add dX9_image_93 (by have := zt_1; omega) ?_
        intro x68 h69
        have := zt_1
        replace hb : zHd _ := hb x68.toInt (by have := zt_1; omega)
        refine w_iv dX9_image_94 rfl rfl (As := [.int x68]) rfl rfl hJ60.1.1 zs_386 (Nat.le_of_ble_eq_true rfl) ?_
        refine ZV.of (ini := false) rfl (Nat.le_of_ble_eq_true rfl) (by decide +kernel) ?_
        show ZW _ _ _ _ _ _ _ (0, [some (.ref 386), some (.int x68)], [], M59)
        refine w_lo dX9_writes_0 rfl rfl rfl rfl ?_
        refine w_gf dX9_writes_1 rfl hJ60.1.1 zs_386 (zr_386_80 hJ60.1) ?_
        refine w_lo dX9_writes_4 rfl rfl rfl rfl ?_
        refine w_gf dX9_writes_5 rfl hJ60.1.1 zs_386 f61 ?_
        refine w_lo dX9_writes_8 rfl rfl rfl rfl ?_
        refine w_si dX9_writes_9 (c := 255) (by decide) ?_
        refine w_and dX9_writes_12 (m := 255) zt_255 (by omega) ?_
        intro x70 h71 h72
        replace hb : zHd _ := hb x70.toInt h71 h72
        have h73 := hb.1
        replace hb : zHd _ := hb.2
        refine w_isi dX9_writes_13 hJ60 zs_439 (by omega) (by omega) zu_439 (by omega) (by omega) (zIR_a (by omega) (by omega)) ?_
        intro M74 hJ75 f76 hn77
        replace hb : zHd _ := hb (zi M74) (zi_zup hn77 f76 rfl rfl)
        refine w_lo dX9_writes_14 rfl rfl rfl rfl ?_
        refine w_pu dX9_writes_15 rfl rfl ?_
        have f79 := (hn77 (386) 81 (Or.inl (by omega))).trans (f61)
        refine w_gf dX9_writes_16 rfl hJ75.1.1 zs_386 f79 ?_
        refine w_ic dX9_writes_19 zi_1 ?_
        refine w_add dX9_writes_20 (by have := zt_1; omega) ?_
        intro x80 h81
        have := zt_1
        replace hb : zHd _ := hb x80.toInt (by have := zt_1; omega)
        refine w_pfi dX9_writes_21 rfl hJ75 zs_386 (Nat.le_of_ble_eq_true rfl) zo_386_81 (by omega) (by omega) (zIR_s (zIR_k (by omega) (by omega))) rfl rfl rfl ?_
        intro M82 hJ83 f84 hn85
        replace hb : zHd _ := hb (zi M82) (zi_zup hn85 f84 rfl rfl)
        refine w_en dX9_writes_24 rfl ?_
        show ZW _ _ _ _ _ _ _ (97, [some (.ref 386), some (.int v69_1), some (.int v69_2), some (.int s69_0)], [], M82)
        refine w_lo dX9_image_97 rfl rfl rfl rfl ?_
        refine w_lo dX9_image_98 rfl rfl rfl rfl ?_
        refine w_gf dX9_image_99 rfl hJ83.1.1 zs_386 (zr_386_53 hJ83.1) ?_
        refine w_lo dX9_image_102 rfl rfl rfl rfl ?_
        refine w_iai dX9_image_103 hJ83.1 zs_422 (by omega) (by omega) zu_422 ?_
        intro x90 f87 h88 h89
        replace hb : zHd _ := hb x90.toInt (ziEk f87 rfl)
        refine w_iv dX9_image_104 rfl rfl (As := [.int x90]) rfl rfl hJ83.1.1 zs_386 (Nat.le_of_ble_eq_true rfl) ?_
        refine ZV.of (ini := false) rfl (Nat.le_of_ble_eq_true rfl) (by decide +kernel) ?_
        show ZW _ _ _ _ _ _ _ (0, [some (.ref 386), some (.int x90)], [], M82)
        refine w_lo dX9_writes_0 rfl rfl rfl rfl ?_
        refine w_gf dX9_writes_1 rfl hJ83.1.1 zs_386 (zr_386_80 hJ83.1) ?_
        refine w_lo dX9_writes_4 rfl rfl rfl rfl ?_
        refine w_gf dX9_writes_5 rfl hJ83.1.1 zs_386 f84 ?_
        refine w_lo dX9_writes_8 rfl rfl rfl rfl ?_
        refine w_si dX9_writes_9 (c := 255) (by decide) ?_
        refine w_and dX9_writes_12 (m := 255) zt_255 (by omega) ?_
        intro x91 h92 h93
        replace hb : zHd _ := hb x91.toInt h92 h93
        have h94 := hb.1
        replace hb : zHd _ := hb.2
        refine w_isi dX9_writes_13 hJ83 zs_439 (by omega) (by omega) zu_439 (by omega) (by omega) (zIR_a (by omega) (by omega)) ?_
        intro M95 hJ96 f97 hn98
        replace hb : zHd _ := hb (zi M95) (zi_zup hn98 f97 rfl rfl)
        refine w_lo dX9_writes_14 rfl rfl rfl rfl ?_
        refine w_pu dX9_writes_15 rfl rfl ?_
        have f100 := (hn98 (386) 81 (Or.inl (by omega))).trans (f84)
        refine w_gf dX9_writes_16 rfl hJ96.1.1 zs_386 f100 ?_
        refine w_ic dX9_writes_19 zi_1 ?_
        refine w_add dX9_writes_20 (by have := zt_1; omega) ?_
        intro x101 h102
        have := zt_1
        replace hb : zHd _ := hb x101.toInt (by have := zt_1; omega)
        refine w_pfi dX9_writes_21 rfl hJ96 zs_386 (Nat.le_of_ble_eq_true rfl) zo_386_81 (by omega) (by omega) (zIR_s (zIR_k (by omega) (by omega))) rfl rfl rfl ?_
        intro M103 hJ104 f105 hn106
        replace hb : zHd _ := hb (zi M103) (zi_zup hn106 f105 rfl rfl)
        refine w_en dX9_writes_24 rfl ?_
        show ZW _ _ _ _ _ _ _ (107, [some (.ref 386), some (.int v69_1), some (.int v69_2), some (.int s69_0)], [], M103)
        refine w_lo dX9_image_107 rfl rfl rfl rfl ?_
        refine w_lo dX9_image_108 rfl rfl rfl rfl ?_
        refine w_gf dX9_image_109 rfl hJ104.1.1 zs_386 (zr_386_54 hJ104.1) ?_
        refine w_lo dX9_image_112 rfl rfl rfl rfl ?_
        refine w_iai dX9_image_113 hJ104.1 zs_423 (by omega) (by omega) zu_423 ?_
        intro x111 f108 h109 h110
        replace hb : zHd _ := hb x111.toInt (ziEk f108 rfl) h109 h110
        refine w_ic dX9_image_114 zi_1 ?_
        refine w_add dX9_image_115 (by have := zt_1; omega) ?_
        intro x112 h113
        have := zt_1
        replace hb : zHd _ := hb x112.toInt (by have := zt_1; omega)
        refine w_iv dX9_image_116 rfl rfl (As := [.int x112]) rfl rfl hJ104.1.1 zs_386 (Nat.le_of_ble_eq_true rfl) ?_
        refine ZV.of (ini := false) rfl (Nat.le_of_ble_eq_true rfl) (by decide +kernel) ?_
        show ZW _ _ _ _ _ _ _ (0, [some (.ref 386), some (.int x112)], [], M103)
        refine w_lo dX9_writes_0 rfl rfl rfl rfl ?_
        refine w_gf dX9_writes_1 rfl hJ104.1.1 zs_386 (zr_386_80 hJ104.1) ?_
        refine w_lo dX9_writes_4 rfl rfl rfl rfl ?_
        refine w_gf dX9_writes_5 rfl hJ104.1.1 zs_386 f105 ?_
        refine w_lo dX9_writes_8 rfl rfl rfl rfl ?_
        refine w_si dX9_writes_9 (c := 255) (by decide) ?_
        refine w_and dX9_writes_12 (m := 255) zt_255 (by omega) ?_
        intro x114 h115 h116
        replace hb : zHd _ := hb x114.toInt h115 h116
        have h117 := hb.1
        replace hb : zHd _ := hb.2
        refine w_isi dX9_writes_13 hJ104 zs_439 (by omega) (by omega) zu_439 (by omega) (by omega) (zIR_a (by omega) (by omega)) ?_
        intro M118 hJ119 f120 hn121
        replace hb : zHd _ := hb (zi M118) (zi_zup hn121 f120 rfl rfl)
        refine w_lo dX9_writes_14 rfl rfl rfl rfl ?_
        refine w_pu dX9_writes_15 rfl rfl ?_
        have f123 := (hn121 (386) 81 (Or.inl (by omega))).trans (f105)
        refine w_gf dX9_writes_16 rfl hJ119.1.1 zs_386 f123 ?_
        refine w_ic dX9_writes_19 zi_1 ?_
        refine w_add dX9_writes_20 (by have := zt_1; omega) ?_
        intro x124 h125
        have := zt_1
        replace hb : zHd _ := hb x124.toInt (by have := zt_1; omega)
        refine w_pfi dX9_writes_21 rfl hJ119 zs_386 (Nat.le_of_ble_eq_true rfl) zo_386_81 (by omega) (by omega) (zIR_s (zIR_k (by omega) (by omega))) rfl rfl rfl ?_
        intro M126 hJ127 f128 hn129
        replace hb : zHd _ := hb (zi M126) (zi_zup hn129 f128 rfl rfl)
        refine w_en dX9_writes_24 rfl ?_
        show ZW _ _ _ _ _ _ _ (119, [some (.ref 386), some (.int v69_1), some (.int v69_2), some (.int s69_0)], [], M126)
        refine w_lo dX9_image_119 rfl rfl rfl rfl ?_
        refine w_lo dX9_image_120 rfl rfl rfl rfl ?_
        refine w_bi dX9_image_121 (c := 8) (by decide) ?_
        refine w_puI dX9_image_123 rfl rfl ?_
        intro x131
        replace hb : zHd _ := hb x131.toInt 
        refine w_iv dX9_image_124 rfl rfl (As := [.int x131]) rfl rfl hJ127.1.1 zs_386 (Nat.le_of_ble_eq_true rfl) ?_
        refine ZV.of (ini := false) rfl (Nat.le_of_ble_eq_true rfl) (by decide +kernel) ?_
        show ZW _ _ _ _ _ _ _ (0, [some (.ref 386), some (.int x131)], [], M126)
        refine w_lo dX9_writes_0 rfl rfl rfl rfl ?_
        refine w_gf dX9_writes_1 rfl hJ127.1.1 zs_386 (zr_386_80 hJ127.1) ?_
        refine w_lo dX9_writes_4 rfl rfl rfl rfl ?_
        refine w_gf dX9_writes_5 rfl hJ127.1.1 zs_386 f128 ?_
        refine w_lo dX9_writes_8 rfl rfl rfl rfl ?_
        refine w_si dX9_writes_9 (c := 255) (by decide) ?_
        refine w_and dX9_writes_12 (m := 255) zt_255 (by omega) ?_
        intro x132 h133 h134
        replace hb : zHd _ := hb x132.toInt h133 h134
        have h135 := hb.1
        replace hb : zHd _ := hb.2
        refine w_isi dX9_writes_13 hJ127 zs_439 (by omega) (by omega) zu_439 (by omega) (by omega) (zIR_a (by omega) (by omega)) ?_
        intro M136 hJ137 f138 hn139
        replace hb : zHd _ := hb (zi M136) (zi_zup hn139 f138 rfl rfl)
        refine w_lo dX9_writes_14 rfl rfl rfl rfl ?_
        refine w_pu dX9_writes_15 rfl rfl ?_
        have f141 := (hn139 (386) 81 (Or.inl (by omega))).trans (f128)
        refine w_gf dX9_writes_16 rfl hJ137.1.1 zs_386 f141 ?_
        refine w_ic dX9_writes_19 zi_1 ?_
        refine w_add dX9_writes_20 (by have := zt_1; omega) ?_
        intro x142 h143
        have := zt_1
        replace hb : zHd _ := hb x142.toInt (by have := zt_1; omega)
        refine w_pfi dX9_writes_21 rfl hJ137 zs_386 (Nat.le_of_ble_eq_true rfl) zo_386_81 (by omega) (by omega) (zIR_s (zIR_k (by omega) (by omega))) rfl rfl rfl ?_
        intro M144 hJ145 f146 hn147
        replace hb : zHd _ := hb (zi M144) (zi_zup hn147 f146 rfl rfl)
        refine w_en dX9_writes_24 rfl ?_
        show ZW _ _ _ _ _ _ _ (127, [some (.ref 386), some (.int v69_1), some (.int v69_2), some (.int s69_0)], [], M144)
        refine w_lo dX9_image_127 rfl rfl rfl rfl ?_
        refine w_lo dX9_image_128 rfl rfl rfl rfl ?_
        refine w_iv dX9_image_129 rfl rfl (As := [.int s69_0]) rfl rfl hJ145.1.1 zs_386 (Nat.le_of_ble_eq_true rfl) ?_
        refine ZV.of (ini := false) rfl (Nat.le_of_ble_eq_true rfl) (by decide +kernel) ?_
        show ZW _ _ _ _ _ _ _ (0, [some (.ref 386), some (.int s69_0)], [], M144)
        refine w_lo dX9_writes_0 rfl rfl rfl rfl ?_
        refine w_gf dX9_writes_1 rfl hJ145.1.1 zs_386 (zr_386_80 hJ145.1) ?_
        refine w_lo dX9_writes_4 rfl rfl rfl rfl ?_
        refine w_gf dX9_writes_5 rfl hJ145.1.1 zs_386 f146 ?_
        refine w_lo dX9_writes_8 rfl rfl rfl rfl ?_
        refine w_si dX9_writes_9 (c := 255) (by decide) ?_
        refine w_and dX9_writes_12 (m := 255) zt_255 (by omega) ?_
        intro x149 h150 h151
        replace hb : zHd _ := hb x149.toInt h150 h151
        have h152 := hb.1
        replace hb : zHd _ := hb.2
        refine w_isi dX9_writes_13 hJ145 zs_439 (by omega) (by omega) zu_439 (by omega) (by omega) (zIR_a (by omega) (by omega)) ?_
        intro M153 hJ154 f155 hn156
        replace hb : zHd _ := hb (zi M153) (zi_zup hn156 f155 rfl rfl)
        refine w_lo dX9_writes_14 rfl rfl rfl rfl ?_
        refine w_pu dX9_writes_15 rfl rfl ?_
        have f158 := (hn156 (386) 81 (Or.inl (by omega))).trans (f146)
        refine w_gf dX9_writes_16 rfl hJ154.1.1 zs_386 f158 ?_
        refine w_ic dX9_writes_19 zi_1 ?_
        refine w_add dX9_writes_20 (by have := zt_1; omega) ?_
        intro x159 h160
        have := zt_1
        replace hb : zHd _ := hb x159.toInt (by have := zt_1; omega)
        refine w_pfi dX9_writes_21 rfl hJ154 zs_386 (Nat.le_of_ble_eq_true rfl) zo_386_81 (by omega) (by omega) (zIR_s (zIR_k (by omega) (by omega))) rfl rfl rfl ?_
        intro M161 hJ162 f163 hn164
        replace hb : zHd _ := hb (zi M161) (zi_zup hn164 f163 rfl rfl)
        refine w_en dX9_writes_24 rfl ?_
        show ZW _ _ _ _ _ _ _ (132, [some (.ref 386), some (.int v69_1), some (.int v69_2), some (.int s69_0)], [], M161)
        refine w_inc (kk := 1) dX9_image_132 rfl (m := 1) (by decide) (by omega) ?_
        intro x166 h167
        refine ⟨_, rfl, ?_⟩
        replace hb : zHd _ := hb x166.toInt h167
        show ZW _ _ _ _ _ _ _ (135, [some (.ref 386), some (.int x166), some (.int v69_2), some (.int s69_0)], [], M161)
        refine w_gt dX9_image_135 (t := 30) rfl ?_
        obtain ⟨m, hm, hI⟩ := hb
        exact (ih m hm).1 M161 x166 (some (.int v69_2)) (some (.int s69_0)) hJ162 (by omega) (by omega) hI
      · intro M v140_1 o140_2 o140_3 hJ v140_10 v140_11 hI
        have hb : zHd _ := hb140 n (zi M) v140_1.toInt (zi_fr hJ.2) v140_10 v140_11 hI
        refine w_lo dX9_image_140 rfl rfl rfl rfl ?_
        refine w_lo dX9_image_141 rfl rfl rfl rfl ?_
        refine w_iv dX9_image_142 rfl rfl (As := []) rfl rfl hJ.1.1 zs_386 (Nat.le_of_ble_eq_true rfl) ?_
        refine ZV.of (ini := false) rfl (Nat.le_of_ble_eq_true rfl) (by decide +kernel) ?_
        show ZW _ _ _ _ _ _ _ (0, [some (.ref 386)], [], M)
        refine w_lo dX9_many_0 rfl rfl rfl rfl ?_
        refine w_gf dX9_many_1 rfl hJ.1.1 zs_386 (zr_386_13 hJ.1) ?_
        refine w_lo dX9_many_4 rfl rfl rfl rfl ?_
        refine w_gfi dX9_many_5 rfl hJ.1 zs_386 (Nat.le_of_ble_eq_true rfl) zo_386_12 ?_
        intro x168 f169 h170 h171
        replace hb : zHd _ := hb x168.toInt (ziE f169) h170 h171
        refine w_iai dX9_many_8 hJ.1 zs_388 (by omega) (by omega) zu_388 ?_
        intro x175 f172 h173 h174
        replace hb : zHd _ := hb x175.toInt (ziEk f172 rfl) h173 h174
        refine w_eni dX9_many_9 rfl rfl ?_
        show ZW _ _ _ _ _ _ _ (145, [some (.ref 386), some (.int v140_1), o140_2, o140_3], [.int x175, .int v140_1], M)
        refine w_ic dX9_image_145 zi_1 ?_
        refine w_sub dX9_image_146 (by have := zt_1; omega) ?_
        intro x176 h177
        have := zt_1
        replace hb : zHd _ := hb x176.toInt (by have := zt_1; omega)
        rcases zcut v140_1.toInt x176.toInt with h178 | h178
        · skip
          replace hb : zHd _ := hb.1 h178
          refine w_cge_f dX9_image_147 (t := 176) rfl (by omega) ?_
          refine w_lo dX9_image_150 rfl rfl rfl rfl ?_
          refine w_lo dX9_image_151 rfl rfl rfl rfl ?_
          refine w_gf dX9_image_152 rfl hJ.1.1 zs_386 (zr_386_60 hJ.1) ?_
          refine w_lo dX9_image_155 rfl rfl rfl rfl ?_
          refine w_iai dX9_image_156 hJ.1 zs_429 (by omega) (by omega) zu_429 ?_
          intro x182 f179 h180 h181
          replace hb : zHd _ := hb x182.toInt (ziEk f179 rfl) h180 h181
          refine w_iv dX9_image_157 rfl rfl (As := [.int x182]) rfl rfl hJ.1.1 zs_386 (Nat.le_of_ble_eq_true rfl) ?_
          refine ZV.of (ini := false) rfl (Nat.le_of_ble_eq_true rfl) (by decide +kernel) ?_
          show ZW _ _ _ _ _ _ _ (0, [some (.ref 386), some (.int x182)], [], M)
          refine w_lo dX9_writes_0 rfl rfl rfl rfl ?_
          refine w_gf dX9_writes_1 rfl hJ.1.1 zs_386 (zr_386_80 hJ.1) ?_
          refine w_lo dX9_writes_4 rfl rfl rfl rfl ?_
          refine w_gfi dX9_writes_5 rfl hJ.1 zs_386 (Nat.le_of_ble_eq_true rfl) zo_386_81 ?_
          intro x183 f184 h185 h186
          replace hb : zHd _ := hb x183.toInt (ziE f184) h185 h186
          refine w_lo dX9_writes_8 rfl rfl rfl rfl ?_
          refine w_si dX9_writes_9 (c := 255) (by decide) ?_
          refine w_and dX9_writes_12 (m := 255) zt_255 (by omega) ?_
          intro x187 h188 h189
          replace hb : zHd _ := hb x187.toInt h188 h189
          have h190 := hb.1
          replace hb : zHd _ := hb.2
          refine w_isi dX9_writes_13 hJ zs_439 (by omega) (by omega) zu_439 (by omega) (by omega) (zIR_a (by omega) (by omega)) ?_
          intro M191 hJ192 f193 hn194
          replace hb : zHd _ := hb (zi M191) (zi_zup hn194 f193 rfl rfl)
          refine w_lo dX9_writes_14 rfl rfl rfl rfl ?_
          refine w_pu dX9_writes_15 rfl rfl ?_
          have f196 := (hn194 (386) 81 (Or.inl (by omega))).trans (f184)
          refine w_gf dX9_writes_16 rfl hJ192.1.1 zs_386 f196 ?_
          refine w_ic dX9_writes_19 zi_1 ?_
          refine w_add dX9_writes_20 (by have := zt_1; omega) ?_
          intro x197 h198
          have := zt_1
          replace hb : zHd _ := hb x197.toInt (by have := zt_1; omega)
          refine w_pfi dX9_writes_21 rfl hJ192 zs_386 (Nat.le_of_ble_eq_true rfl) zo_386_81 (by omega) (by omega) (zIR_s (zIR_k (by omega) (by omega))) rfl rfl rfl ?_
          intro M199 hJ200 f201 hn202
          replace hb : zHd _ := hb (zi M199) (zi_zup hn202 f201 rfl rfl)
          refine w_en dX9_writes_24 rfl ?_
          show ZW _ _ _ _ _ _ _ (160, [some (.ref 386), some (.int v140_1), o140_2, o140_3], [], M199)
          refine w_lo dX9_image_160 rfl rfl rfl rfl ?_
          refine w_lo dX9_image_161 rfl rfl rfl rfl ?_
          refine w_gf dX9_image_162 rfl hJ200.1.1 zs_386 (zr_386_61 hJ200.1) ?_
          refine w_lo dX9_image_165 rfl rfl rfl rfl ?_
          refine w_iai dX9_image_166 hJ200.1 zs_430 (by omega) (by omega) zu_430 ?_
          intro x207 f204 h205 h206
          replace hb : zHd _ := hb x207.toInt (ziEk f204 rfl)
          refine w_iv dX9_image_167 rfl rfl (As := [.int x207]) rfl rfl hJ200.1.1 zs_386 (Nat.le_of_ble_eq_true rfl) ?_
          refine ZV.of (ini := false) rfl (Nat.le_of_ble_eq_true rfl) (by decide +kernel) ?_
          show ZW _ _ _ _ _ _ _ (0, [some (.ref 386), some (.int x207)], [], M199)
          refine w_lo dX9_writes_0 rfl rfl rfl rfl ?_
          refine w_gf dX9_writes_1 rfl hJ200.1.1 zs_386 (zr_386_80 hJ200.1) ?_
          refine w_lo dX9_writes_4 rfl rfl rfl rfl ?_
          refine w_gf dX9_writes_5 rfl hJ200.1.1 zs_386 f201 ?_
          refine w_lo dX9_writes_8 rfl rfl rfl rfl ?_
          refine w_si dX9_writes_9 (c := 255) (by decide) ?_
          refine w_and dX9_writes_12 (m := 255) zt_255 (by omega) ?_
          intro x208 h209 h210
          replace hb : zHd _ := hb x208.toInt h209 h210
          have h211 := hb.1
          replace hb : zHd _ := hb.2
          refine w_isi dX9_writes_13 hJ200 zs_439 (by omega) (by omega) zu_439 (by omega) (by omega) (zIR_a (by omega) (by omega)) ?_
          intro M212 hJ213 f214 hn215
          replace hb : zHd _ := hb (zi M212) (zi_zup hn215 f214 rfl rfl)
          refine w_lo dX9_writes_14 rfl rfl rfl rfl ?_
          refine w_pu dX9_writes_15 rfl rfl ?_
          have f217 := (hn215 (386) 81 (Or.inl (by omega))).trans (f201)
          refine w_gf dX9_writes_16 rfl hJ213.1.1 zs_386 f217 ?_
          refine w_ic dX9_writes_19 zi_1 ?_
          refine w_add dX9_writes_20 (by have := zt_1; omega) ?_
          intro x218 h219
          have := zt_1
          replace hb : zHd _ := hb x218.toInt (by have := zt_1; omega)
          refine w_pfi dX9_writes_21 rfl hJ213 zs_386 (Nat.le_of_ble_eq_true rfl) zo_386_81 (by omega) (by omega) (zIR_s (zIR_k (by omega) (by omega))) rfl rfl rfl ?_
          intro M220 hJ221 f222 hn223
          replace hb : zHd _ := hb (zi M220) (zi_zup hn223 f222 rfl rfl)
          refine w_en dX9_writes_24 rfl ?_
          show ZW _ _ _ _ _ _ _ (170, [some (.ref 386), some (.int v140_1), o140_2, o140_3], [], M220)
          refine w_inc (kk := 1) dX9_image_170 rfl (m := 1) (by decide) (by omega) ?_
          intro x225 h226
          refine ⟨_, rfl, ?_⟩
          replace hb : zHd _ := hb x225.toInt h226
          show ZW _ _ _ _ _ _ _ (173, [some (.ref 386), some (.int x225), o140_2, o140_3], [], M220)
          refine w_gt dX9_image_173 (t := 140) rfl ?_
          obtain ⟨m, hm, hI⟩ := hb
          exact (ih m hm).2.2.1 M220 x225 o140_2 o140_3 hJ221 (by omega) (by omega) hI
        · skip
          replace hb : zHd _ := hb.2 h178
          refine w_cge_t dX9_image_147 (t := 176) rfl (by omega) ?_
          refine w_bi dX9_image_176 (c := 89) (by decide) ?_
          refine w_lo (ml' := [some (.ref 386), some (.int 89), o140_2, o140_3]) dX9_image_178 rfl rfl rfl rfl ?_
          refine w_ic dX9_image_179 zi_0 ?_
          refine w_lo (ml' := [some (.ref 386), some (.int 89), some (.int 0), o140_3]) dX9_image_180 rfl rfl rfl rfl ?_
          obtain ⟨m, hm, hI⟩ := hb
          exact (ih m hm).2.2.2 M 89 0 o140_3 hJ (by have := zt_89; omega) (by have := zt_89; omega) (by have := zt_0; omega) (by have := zt_0; omega) hI
      · intro M v181_1 v181_2 o181_3 hJ v181_10 v181_11 v181_20 v181_21 hI
        have hb : zHd _ := hb181 n (zi M) v181_1.toInt v181_2.toInt (zi_fr hJ.2) v181_10 v181_11 v181_20 v181_21 hI
        refine w_lo dX9_image_181 rfl rfl rfl rfl ?_
        refine w_lo dX9_image_182 rfl rfl rfl rfl ?_
        refine w_gfi dX9_image_183 rfl hJ.1 zs_386 (Nat.le_of_ble_eq_true rfl) zo_386_81 ?_
        intro x227 f228 h229 h230
        replace hb : zHd _ := hb x227.toInt (ziE f228) h229 h230
        rcases zcut v181_2.toInt x227.toInt with h231 | h231
        · skip
          replace hb : zHd _ := hb.1 h231
          refine w_cge_f dX9_image_186 (t := 210) rfl (by omega) ?_
          refine w_ic dX9_image_189 zi_5 ?_
          refine w_lo dX9_image_190 rfl rfl rfl rfl ?_
          refine w_mulc dX9_image_191 zt_5 (by have := zt_5; omega) ?_
          intro x232 h233
          have := zt_5
          replace hb : zHd _ := hb x232.toInt (by have := zt_5; omega)
          refine w_lo dX9_image_192 rfl rfl rfl rfl ?_
          refine w_gf dX9_image_193 rfl hJ.1.1 zs_386 (zr_386_80 hJ.1) ?_
          refine w_lo dX9_image_196 rfl rfl rfl rfl ?_
          refine w_iai dX9_image_197 hJ.1 zs_439 (by omega) (by omega) zu_439 ?_
          intro x237 f234 h235 h236
          replace hb : zHd _ := hb x237.toInt (ziEk f234 rfl) h235 h236
          refine w_add dX9_image_198 (by omega) ?_
          intro x238 h239
          replace hb : zHd _ := hb x238.toInt (by omega)
          refine w_si dX9_image_199 (c := 251) (by decide) ?_
          refine w_remE dX9_image_202 (by omega) (by have := zt_251; omega) ?_
          intro x240 h241 h242 h243
          have := zt_251
          replace hb : zHd _ := hb x240.toInt h241 (by omega) (by rw [h243, zt_251])
          refine w_lo (ml' := [some (.ref 386), some (.int x240), some (.int v181_2), o181_3]) dX9_image_203 rfl rfl rfl rfl ?_
          refine w_inc (kk := 2) dX9_image_204 rfl (m := 1) (by decide) (by omega) ?_
          intro x244 h245
          refine ⟨_, rfl, ?_⟩
          replace hb : zHd _ := hb x244.toInt h245
          show ZW _ _ _ _ _ _ _ (207, [some (.ref 386), some (.int x240), some (.int x244), o181_3], [], M)
          refine w_gt dX9_image_207 (t := 181) rfl ?_
          obtain ⟨m, hm, hI⟩ := hb
          exact (ih m hm).2.2.2 M x240 x244 o181_3 hJ (by omega) (by omega) (by omega) (by omega) hI
        · skip
          replace hb : zHd _ := hb.2 h231
          refine w_cge_t dX9_image_186 (t := 210) rfl (by omega) ?_
          refine w_lo dX9_image_210 rfl rfl rfl rfl ?_
          refine w_lo dX9_image_211 rfl rfl rfl rfl ?_
          refine w_iv dX9_image_212 rfl rfl (As := [.int v181_1]) rfl rfl hJ.1.1 zs_386 (Nat.le_of_ble_eq_true rfl) ?_
          refine ZV.of (ini := false) rfl (Nat.le_of_ble_eq_true rfl) (by decide +kernel) ?_
          show ZW _ _ _ _ _ _ _ (0, [some (.ref 386), some (.int v181_1)], [], M)
          refine w_lo dX9_writes_0 rfl rfl rfl rfl ?_
          refine w_gf dX9_writes_1 rfl hJ.1.1 zs_386 (zr_386_80 hJ.1) ?_
          refine w_lo dX9_writes_4 rfl rfl rfl rfl ?_
          refine w_gf dX9_writes_5 rfl hJ.1.1 zs_386 f228 ?_
          refine w_lo dX9_writes_8 rfl rfl rfl rfl ?_
          refine w_si dX9_writes_9 (c := 255) (by decide) ?_
          refine w_and dX9_writes_12 (m := 255) zt_255 (by omega) ?_
          intro x246 h247 h248
          replace hb : zHd _ := hb x246.toInt h247 h248
          have h249 := hb.1
          replace hb : zHd _ := hb.2
          refine w_isi dX9_writes_13 hJ zs_439 (by omega) (by omega) zu_439 (by omega) (by omega) (zIR_a (by omega) (by omega)) ?_
          intro M250 hJ251 f252 hn253
          replace hb : zHd _ := hb (zi M250) (zi_zup hn253 f252 rfl rfl)
          refine w_lo dX9_writes_14 rfl rfl rfl rfl ?_
          refine w_pu dX9_writes_15 rfl rfl ?_
          have f255 := (hn253 (386) 81 (Or.inl (by omega))).trans (f228)
          refine w_gf dX9_writes_16 rfl hJ251.1.1 zs_386 f255 ?_
          refine w_ic dX9_writes_19 zi_1 ?_
          refine w_add dX9_writes_20 (by have := zt_1; omega) ?_
          intro x256 h257
          have := zt_1
          replace hb : zHd _ := hb x256.toInt (by have := zt_1; omega)
          refine w_pfi dX9_writes_21 rfl hJ251 zs_386 (Nat.le_of_ble_eq_true rfl) zo_386_81 (by omega) (by omega) (zIR_s (zIR_k (by omega) (by omega))) rfl rfl rfl ?_
          intro M258 hJ259 f260 hn261
          replace hb : zHd _ := hb (zi M258) (zi_zup hn261 f260 rfl rfl)
          refine w_en dX9_writes_24 rfl ?_
          show ZW _ _ _ _ _ _ _ (215, [some (.ref 386), some (.int v181_1), some (.int v181_2), o181_3], [], M258)
          refine w_lo dX9_image_215 rfl rfl rfl rfl ?_
          refine w_gf dX9_image_216 rfl hJ259.1.1 zs_386 f260 ?_
          refine w_eni dX9_image_219 rfl rfl ?_
          exact ⟨_, _, rfl, (by omega), (by omega), hJ259, hb⟩
  have hb : zHd _ := hbE
  show ZW _ _ _ _ _ _ _ (0, [some (.ref 386), none, none, none], [], M0)
  refine w_lo dX9_image_0 rfl rfl rfl rfl ?_
  refine w_ic dX9_image_1 zi_0 ?_
  refine w_pfi dX9_image_2 rfl hJ0 zs_386 (Nat.le_of_ble_eq_true rfl) zo_386_81 (by have := zt_0; omega) (by have := zt_0; omega) (zIR_s (zIR_k (by omega) (by omega))) rfl rfl rfl ?_
  intro M263 hJ264 f265 hn266
  replace hb : zHd _ := hb (zi M263) (zi_zup hn266 f265 rfl zt_0)
  refine w_lo dX9_image_5 rfl rfl rfl rfl ?_
  refine w_lo dX9_image_6 rfl rfl rfl rfl ?_
  refine w_gf dX9_image_7 rfl hJ264.1.1 zs_386 (zr_386_49 hJ264.1) ?_
  refine w_ic dX9_image_10 zi_0 ?_
  refine w_iai dX9_image_11 hJ264.1 zs_418 (by have := zt_0; omega) (by have := zt_0; omega) zu_418 ?_
  intro x271 f268 h269 h270
  replace hb : zHd _ := hb x271.toInt (ziEk f268 (by decide))
  refine w_bi dX9_image_12 (c := 8) (by decide) ?_
  refine w_puI dX9_image_14 rfl rfl ?_
  intro x272
  replace hb : zHd _ := hb x272.toInt 
  refine w_iv dX9_image_15 rfl rfl (As := [.int x272]) rfl rfl hJ264.1.1 zs_386 (Nat.le_of_ble_eq_true rfl) ?_
  refine ZV.of (ini := false) rfl (Nat.le_of_ble_eq_true rfl) (by decide +kernel) ?_
  show ZW _ _ _ _ _ _ _ (0, [some (.ref 386), some (.int x272)], [], M263)
  refine w_lo dX9_writes_0 rfl rfl rfl rfl ?_
  refine w_gf dX9_writes_1 rfl hJ264.1.1 zs_386 (zr_386_80 hJ264.1) ?_
  refine w_lo dX9_writes_4 rfl rfl rfl rfl ?_
  refine w_gf dX9_writes_5 rfl hJ264.1.1 zs_386 f265 ?_
  refine w_lo dX9_writes_8 rfl rfl rfl rfl ?_
  refine w_si dX9_writes_9 (c := 255) (by decide) ?_
  refine w_and dX9_writes_12 (m := 255) zt_255 (by omega) ?_
  intro x273 h274 h275
  replace hb : zHd _ := hb x273.toInt h274 h275
  refine w_isi dX9_writes_13 hJ264 zs_439 (by have := zt_0; omega) (by have := zt_0; omega) zu_439 (by omega) (by omega) (zIR_a (by omega) (by omega)) ?_
  intro M276 hJ277 f278 hn279
  replace hb : zHd _ := hb (zi M276) (zi_zup hn279 f278 (by decide) rfl)
  refine w_lo dX9_writes_14 rfl rfl rfl rfl ?_
  refine w_pu dX9_writes_15 rfl rfl ?_
  have f281 := (hn279 (386) 81 (Or.inl (by omega))).trans (f265)
  refine w_gf dX9_writes_16 rfl hJ277.1.1 zs_386 f281 ?_
  refine w_ic dX9_writes_19 zi_1 ?_
  refine w_pu (st' := [.int 1, .ref 386]) dX9_writes_20 rfl rfl ?_
  refine w_pfi dX9_writes_21 rfl hJ277 zs_386 (Nat.le_of_ble_eq_true rfl) zo_386_81 (by have := zt_1; omega) (by have := zt_1; omega) (zIR_s (zIR_k (by omega) (by omega))) rfl rfl rfl ?_
  intro M282 hJ283 f284 hn285
  replace hb : zHd _ := hb (zi M282) (zi_zup hn285 f284 rfl zt_1)
  refine w_en dX9_writes_24 rfl ?_
  show ZW _ _ _ _ _ _ _ (18, [some (.ref 386), none, none, none], [], M282)
  refine w_lo dX9_image_18 rfl rfl rfl rfl ?_
  refine w_lo dX9_image_19 rfl rfl rfl rfl ?_
  refine w_gf dX9_image_20 rfl hJ283.1.1 zs_386 (zr_386_49 hJ283.1) ?_
  refine w_ic dX9_image_23 zi_0 ?_
  have f290 := (hn285 (418) (0 : Int32).toInt.toNat (Or.inl (by omega))).trans ((hn279 (418) (0 : Int32).toInt.toNat (Or.inl (by omega))).trans (f268))
  refine w_ia dX9_image_24 hJ283.1.1 zs_418 (znat (by have := zt_0; omega)) f290 ?_
  refine w_iv dX9_image_25 rfl rfl (As := [.int x271]) rfl rfl hJ283.1.1 zs_386 (Nat.le_of_ble_eq_true rfl) ?_
  refine ZV.of (ini := false) rfl (Nat.le_of_ble_eq_true rfl) (by decide +kernel) ?_
  show ZW _ _ _ _ _ _ _ (0, [some (.ref 386), some (.int x271)], [], M282)
  refine w_lo dX9_writes_0 rfl rfl rfl rfl ?_
  refine w_gf dX9_writes_1 rfl hJ283.1.1 zs_386 (zr_386_80 hJ283.1) ?_
  refine w_lo dX9_writes_4 rfl rfl rfl rfl ?_
  refine w_gf dX9_writes_5 rfl hJ283.1.1 zs_386 f284 ?_
  refine w_lo dX9_writes_8 rfl rfl rfl rfl ?_
  refine w_si dX9_writes_9 (c := 255) (by decide) ?_
  refine w_and dX9_writes_12 (m := 255) zt_255 (by omega) ?_
  intro x291 h292 h293
  replace hb : zHd _ := hb x291.toInt h292 h293
  refine w_isi dX9_writes_13 hJ283 zs_439 (by have := zt_1; omega) (by have := zt_1; omega) zu_439 (by omega) (by omega) (zIR_a (by omega) (by omega)) ?_
  intro M294 hJ295 f296 hn297
  replace hb : zHd _ := hb (zi M294) (zi_zup hn297 f296 (by decide) rfl)
  refine w_lo dX9_writes_14 rfl rfl rfl rfl ?_
  refine w_pu dX9_writes_15 rfl rfl ?_
  have f299 := (hn297 (386) 81 (Or.inl (by omega))).trans (f284)
  refine w_gf dX9_writes_16 rfl hJ295.1.1 zs_386 f299 ?_
  refine w_ic dX9_writes_19 zi_1 ?_
  refine w_pu (st' := [.int 2, .ref 386]) dX9_writes_20 rfl rfl ?_
  refine w_pfi dX9_writes_21 rfl hJ295 zs_386 (Nat.le_of_ble_eq_true rfl) zo_386_81 (by have := zt_2; omega) (by have := zt_2; omega) (zIR_s (zIR_k (by omega) (by omega))) rfl rfl rfl ?_
  intro M300 hJ301 f302 hn303
  replace hb : zHd _ := hb (zi M300) (zi_zup hn303 f302 rfl zt_2)
  refine w_en dX9_writes_24 rfl ?_
  show ZW _ _ _ _ _ _ _ (28, [some (.ref 386), none, none, none], [], M300)
  refine w_ic dX9_image_28 zi_0 ?_
  refine w_lo (ml' := [some (.ref 386), some (.int 0), none, none]) dX9_image_29 rfl rfl rfl rfl ?_
  obtain ⟨m, hI⟩ := hb
  exact (main m).1 M300 0 none none hJ301 (by have := zt_0; omega) (by have := zt_0; omega) hI
set_option maxHeartbeats 4000000 in
theorem v_2107 {s0 : zF} {a0 : Int} : b_2107 s0 a0 (fun g => g 0 13 = if s0 0 13 < 109 then s0 0 13 + 1 else s0 0 13) := by
  unfold b_2107
  intro x1 ex1 fx1 gx1
  refine ⟨fun h5 => ?_, fun h5 => ?_⟩
  · skip
    intro g10 eg10
    intro x12 ex12
    intro g18 eg18
    rw [if_pos (by omega), eg18, zup_eq]
    omega
  · skip
    rw [if_neg (by omega)]
set_option maxHeartbeats 4000000 in
theorem v_2106 {s0 : zF} {a0 : Int} (h : s0 0 13 ≤ 107) : b_2106 s0 a0 (fun g => g 0 13 = s0 0 13 + 2) := by
  unfold b_2106
  intro x1 
  refine ⟨fun g' => g' 0 13 = if s0 0 13 < 109 then s0 0 13 + 1 else s0 0 13, ?_, ?_⟩
  · skip
    exact v_2107
  · skip
    intro g7 rg7 qg7
    intro x9 
    refine ⟨fun g' => g' 0 13 = if g7 0 13 < 109 then g7 0 13 + 1 else g7 0 13, ?_, ?_⟩
    · skip
      exact v_2107
    · skip
      intro g15 rg15 qg15
      have K0 : s0 0 13 = s0 0 13 + 0 := by omega
      have K1 : g7 0 13 = s0 0 13 + 1 := by
        have q : g7 0 13 = if s0 0 13 < 109 then s0 0 13 + 1 else s0 0 13 := qg7
        rw [if_pos (by omega)] at q
        omega
      have K2 : g15 0 13 = s0 0 13 + 2 := by
        have q : g15 0 13 = if g7 0 13 < 109 then g7 0 13 + 1 else g7 0 13 := qg15
        rw [if_pos (by omega)] at q
        omega
      omega
set_option maxHeartbeats 4000000 in
theorem v_2105 {s0 : zF} (h0 : 0 ≤ s0 49 0) (h12 : s0 49 0 ≤ 12) : b_2105 s0 (fun v _ => v = (2 + 7 * s0 49 0 + 2 * (if s0 49 0 = 0 then 0 else s0 49 0 - 1) + 1)) := by
  refine ⟨fun n g v18_1 => n = (500 - v18_1).toNat ∧ g 0 13 = 2 + 7 * v18_1 ∧ v18_1 ≤ s0 49 0, fun n g v135_1 => n = (100 - v135_1).toNat ∧ g 0 13 = 2 + 7 * s0 49 0 + 2 * v135_1 ∧ (v135_1 = 0 ∨ v135_1 ≤ s0 49 0 - 1), ?_, ?_, ?_⟩
  · skip
    intro g223 eg223
    intro x224 ex224
    refine ⟨fun g' => g' 0 13 = g223 0 13 + 2, ?_, ?_⟩
    · skip
      have K0 : s0 0 13 = s0 0 13 + 0 := by omega
      have K1 : g223 0 13 = 0 := by rw [eg223, zup_eq]
      exact v_2106 (by omega)
    · skip
      intro g233 rg233 qg233
      have K0 : s0 0 13 = s0 0 13 + 0 := by omega
      have K1 : g223 0 13 = 0 := by rw [eg223, zup_eq]
      have K2 : g233 0 13 = 2 := by
        have q : g233 0 13 = g223 0 13 + 2 := qg233
        omega
      exact ⟨_, rfl, by omega, h0⟩
  · intro n g v18_1 rg qv18_10 qv18_11 hI
    obtain ⟨hn, hk, hl⟩ := hI
    have hc : g 49 0 = s0 49 0 := rg.s (by decide)
    intro x1 ex1 fx1 gx1
    refine ⟨fun h5 => ?_, fun h5 => ?_⟩
    · skip
      intro x9 ex9 fx9 gx9
      refine ⟨fun g' => g' 0 13 = if g 0 13 < 109 then g 0 13 + 1 else g 0 13, ?_, ?_⟩
      · skip
        exact v_2107
      · skip
        intro g15 rg15 qg15
        intro x20 ex20 fx20 gx20
        refine ⟨fun h21 => ?_, fun h21 => ?_⟩
        · skip
          refine ⟨fun g' => g' 0 13 = if g15 0 13 < 109 then g15 0 13 + 1 else g15 0 13, ?_, ?_⟩
          · skip
            exact v_2107
          · skip
            intro g27 rg27 qg27
            intro x32 ex32 fx32 gx32
            intro x33 ex33
            refine ⟨fun g' => g' 0 13 = if g27 0 13 < 109 then g27 0 13 + 1 else g27 0 13, ?_, ?_⟩
            · skip
              exact v_2107
            · skip
              intro g40 rg40 qg40
              intro x45 ex45
              refine ⟨fun g' => g' 0 13 = if g40 0 13 < 109 then g40 0 13 + 1 else g40 0 13, ?_, ?_⟩
              · skip
                exact v_2107
              · skip
                intro g51 rg51 qg51
                intro x56 ex56 fx56 gx56
                intro x57 ex57
                refine ⟨fun g' => g' 0 13 = if g51 0 13 < 109 then g51 0 13 + 1 else g51 0 13, ?_, ?_⟩
                · skip
                  exact v_2107
                · skip
                  intro g64 rg64 qg64
                  intro x69 ex69
                  intro x70 ex70 fx70 gx70
                  refine ⟨fun g' => g' 0 13 = g64 0 13 + 2, ?_, ?_⟩
                  · skip
                    have K0 : g 0 13 = g 0 13 + 0 := by omega
                    have K1 : g15 0 13 = g 0 13 + 1 := by
                      have q : g15 0 13 = if g 0 13 < 109 then g 0 13 + 1 else g 0 13 := qg15
                      rw [if_pos (by omega)] at q
                      omega
                    have K2 : g27 0 13 = g 0 13 + 2 := by
                      have q : g27 0 13 = if g15 0 13 < 109 then g15 0 13 + 1 else g15 0 13 := qg27
                      rw [if_pos (by omega)] at q
                      omega
                    have K3 : g40 0 13 = g 0 13 + 3 := by
                      have q : g40 0 13 = if g27 0 13 < 109 then g27 0 13 + 1 else g27 0 13 := qg40
                      rw [if_pos (by omega)] at q
                      omega
                    have K4 : g51 0 13 = g 0 13 + 4 := by
                      have q : g51 0 13 = if g40 0 13 < 109 then g40 0 13 + 1 else g40 0 13 := qg51
                      rw [if_pos (by omega)] at q
                      omega
                    have K5 : g64 0 13 = g 0 13 + 5 := by
                      have q : g64 0 13 = if g51 0 13 < 109 then g51 0 13 + 1 else g51 0 13 := qg64
                      rw [if_pos (by omega)] at q
                      omega
                    exact v_2106 (by omega)
                  · skip
                    intro g79 rg79 qg79
                    intro x81 ex81
                    have K0 : g 0 13 = g 0 13 + 0 := by omega
                    have K1 : g15 0 13 = g 0 13 + 1 := by
                      have q : g15 0 13 = if g 0 13 < 109 then g 0 13 + 1 else g 0 13 := qg15
                      rw [if_pos (by omega)] at q
                      omega
                    have K2 : g27 0 13 = g 0 13 + 2 := by
                      have q : g27 0 13 = if g15 0 13 < 109 then g15 0 13 + 1 else g15 0 13 := qg27
                      rw [if_pos (by omega)] at q
                      omega
                    have K3 : g40 0 13 = g 0 13 + 3 := by
                      have q : g40 0 13 = if g27 0 13 < 109 then g27 0 13 + 1 else g27 0 13 := qg40
                      rw [if_pos (by omega)] at q
                      omega
                    have K4 : g51 0 13 = g 0 13 + 4 := by
                      have q : g51 0 13 = if g40 0 13 < 109 then g40 0 13 + 1 else g40 0 13 := qg51
                      rw [if_pos (by omega)] at q
                      omega
                    have K5 : g64 0 13 = g 0 13 + 5 := by
                      have q : g64 0 13 = if g51 0 13 < 109 then g51 0 13 + 1 else g51 0 13 := qg64
                      rw [if_pos (by omega)] at q
                      omega
                    have K6 : g79 0 13 = g 0 13 + 7 := by
                      have q : g79 0 13 = g64 0 13 + 2 := qg79
                      omega
                    exact ⟨_, by omega, rfl, by omega, by omega⟩
        · skip
          refine ⟨fun g' => g' 0 13 = if g15 0 13 < 109 then g15 0 13 + 1 else g15 0 13, ?_, ?_⟩
          · skip
            exact v_2107
          · skip
            intro g88 rg88 qg88
            intro x93 ex93 fx93 gx93
            intro x94 ex94
            refine ⟨fun g' => g' 0 13 = if g88 0 13 < 109 then g88 0 13 + 1 else g88 0 13, ?_, ?_⟩
            · skip
              exact v_2107
            · skip
              intro g101 rg101 qg101
              intro x106 ex106
              refine ⟨fun g' => g' 0 13 = if g101 0 13 < 109 then g101 0 13 + 1 else g101 0 13, ?_, ?_⟩
              · skip
                exact v_2107
              · skip
                intro g112 rg112 qg112
                intro x117 ex117 fx117 gx117
                intro x118 ex118
                refine ⟨fun g' => g' 0 13 = if g112 0 13 < 109 then g112 0 13 + 1 else g112 0 13, ?_, ?_⟩
                · skip
                  exact v_2107
                · skip
                  intro g125 rg125 qg125
                  intro x130 ex130
                  intro x131 ex131 fx131 gx131
                  refine ⟨fun g' => g' 0 13 = g125 0 13 + 2, ?_, ?_⟩
                  · skip
                    have K0 : g 0 13 = g 0 13 + 0 := by omega
                    have K1 : g15 0 13 = g 0 13 + 1 := by
                      have q : g15 0 13 = if g 0 13 < 109 then g 0 13 + 1 else g 0 13 := qg15
                      rw [if_pos (by omega)] at q
                      omega
                    have K2 : g88 0 13 = g 0 13 + 2 := by
                      have q : g88 0 13 = if g15 0 13 < 109 then g15 0 13 + 1 else g15 0 13 := qg88
                      rw [if_pos (by omega)] at q
                      omega
                    have K3 : g101 0 13 = g 0 13 + 3 := by
                      have q : g101 0 13 = if g88 0 13 < 109 then g88 0 13 + 1 else g88 0 13 := qg101
                      rw [if_pos (by omega)] at q
                      omega
                    have K4 : g112 0 13 = g 0 13 + 4 := by
                      have q : g112 0 13 = if g101 0 13 < 109 then g101 0 13 + 1 else g101 0 13 := qg112
                      rw [if_pos (by omega)] at q
                      omega
                    have K5 : g125 0 13 = g 0 13 + 5 := by
                      have q : g125 0 13 = if g112 0 13 < 109 then g112 0 13 + 1 else g112 0 13 := qg125
                      rw [if_pos (by omega)] at q
                      omega
                    exact v_2106 (by omega)
                  · skip
                    intro g140 rg140 qg140
                    intro x142 ex142
                    have K0 : g 0 13 = g 0 13 + 0 := by omega
                    have K1 : g15 0 13 = g 0 13 + 1 := by
                      have q : g15 0 13 = if g 0 13 < 109 then g 0 13 + 1 else g 0 13 := qg15
                      rw [if_pos (by omega)] at q
                      omega
                    have K2 : g88 0 13 = g 0 13 + 2 := by
                      have q : g88 0 13 = if g15 0 13 < 109 then g15 0 13 + 1 else g15 0 13 := qg88
                      rw [if_pos (by omega)] at q
                      omega
                    have K3 : g101 0 13 = g 0 13 + 3 := by
                      have q : g101 0 13 = if g88 0 13 < 109 then g88 0 13 + 1 else g88 0 13 := qg101
                      rw [if_pos (by omega)] at q
                      omega
                    have K4 : g112 0 13 = g 0 13 + 4 := by
                      have q : g112 0 13 = if g101 0 13 < 109 then g101 0 13 + 1 else g101 0 13 := qg112
                      rw [if_pos (by omega)] at q
                      omega
                    have K5 : g125 0 13 = g 0 13 + 5 := by
                      have q : g125 0 13 = if g112 0 13 < 109 then g112 0 13 + 1 else g112 0 13 := qg125
                      rw [if_pos (by omega)] at q
                      omega
                    have K6 : g140 0 13 = g 0 13 + 7 := by
                      have q : g140 0 13 = g125 0 13 + 2 := qg140
                      omega
                    exact ⟨_, by omega, rfl, by omega, by omega⟩
    · skip
      have e7 : v18_1 = s0 49 0 := by omega
      exact ⟨_, by omega, rfl, by omega, Or.inl rfl⟩
  · intro n g v135_1 rg qv135_10 qv135_11 hI
    obtain ⟨hn, hk, hl⟩ := hI
    have hc : g 49 0 = s0 49 0 := rg.s (by decide)
    intro x144 ex144 fx144 gx144
    intro x148 ex148
    refine ⟨fun h150 => ?_, fun h150 => ?_⟩
    · skip
      intro x154 ex154 fx154 gx154
      refine ⟨fun h155 => ?_, fun h155 => ?_⟩
      · skip
        refine ⟨fun g' => g' 0 13 = if g 0 13 < 109 then g 0 13 + 1 else g 0 13, ?_, ?_⟩
        · skip
          exact v_2107
        · skip
          intro g161 rg161 qg161
          intro x166 ex166 fx166 gx166
          refine ⟨fun g' => g' 0 13 = if g161 0 13 < 109 then g161 0 13 + 1 else g161 0 13, ?_, ?_⟩
          · skip
            exact v_2107
          · skip
            intro g172 rg172 qg172
            intro x174 ex174
            have K0 : g 0 13 = g 0 13 + 0 := by omega
            have K1 : g161 0 13 = g 0 13 + 1 := by
              have q : g161 0 13 = if g 0 13 < 109 then g 0 13 + 1 else g 0 13 := qg161
              rw [if_pos (by omega)] at q
              omega
            have K2 : g172 0 13 = g 0 13 + 2 := by
              have q : g172 0 13 = if g161 0 13 < 109 then g161 0 13 + 1 else g161 0 13 := qg172
              rw [if_pos (by omega)] at q
              omega
            exact ⟨_, by omega, rfl, by omega, Or.inr (by omega)⟩
      · skip
        refine ⟨fun g' => g' 0 13 = if g 0 13 < 109 then g 0 13 + 1 else g 0 13, ?_, ?_⟩
        · skip
          exact v_2107
        · skip
          intro g181 rg181 qg181
          intro x186 ex186 fx186 gx186
          refine ⟨fun g' => g' 0 13 = if g181 0 13 < 109 then g181 0 13 + 1 else g181 0 13, ?_, ?_⟩
          · skip
            exact v_2107
          · skip
            intro g192 rg192 qg192
            intro x194 ex194
            have K0 : g 0 13 = g 0 13 + 0 := by omega
            have K1 : g181 0 13 = g 0 13 + 1 := by
              have q : g181 0 13 = if g 0 13 < 109 then g 0 13 + 1 else g 0 13 := qg181
              rw [if_pos (by omega)] at q
              omega
            have K2 : g192 0 13 = g 0 13 + 2 := by
              have q : g192 0 13 = if g181 0 13 < 109 then g181 0 13 + 1 else g181 0 13 := qg192
              rw [if_pos (by omega)] at q
              omega
            exact ⟨_, by omega, rfl, by omega, Or.inr (by omega)⟩
    · skip
      intro x196 ex196 fx196 gx196
      intro x203 g206 rg206 
      refine ⟨fun g' => g' 0 13 = if g206 0 13 < 109 then g206 0 13 + 1 else g206 0 13, ?_, ?_⟩
      · skip
        exact v_2107
      · skip
        intro g213 rg213 qg213
        intro x215 ex215 fx215 gx215
        have K0 : g 0 13 = g 0 13 + 0 := by omega
        have K1 : g206 0 13 = g 0 13 + 0 := by rw [zFr_nl rg206]; omega
        have K2 : g213 0 13 = g 0 13 + 1 := by
          have q : g213 0 13 = if g206 0 13 < 109 then g206 0 13 + 1 else g206 0 13 := qg213
          rw [if_pos (by omega)] at q
          omega
        by_cases z : s0 49 0 = 0
        · rw [if_pos z]
          omega
        · rw [if_neg z]
          omega
set_option maxHeartbeats 4000000 in
theorem v_2423 {s0 : zF} (h0 : 0 ≤ (s0 388 (s0 386 12).toNat)) (h12 : (s0 388 (s0 386 12).toNat) ≤ 12) : b_2423 s0 (fun v _ => v = (2 + 7 * (s0 388 (s0 386 12).toNat) + 2 * (if (s0 388 (s0 386 12).toNat) = 0 then 0 else (s0 388 (s0 386 12).toNat) - 1) + 1)) := by
  refine ⟨fun n g v30_1 => n = (5000 - 3 * v30_1).toNat ∧ g 386 81 = 2 + 7 * v30_1 ∧ v30_1 ≤ (s0 388 (s0 386 12).toNat), fun n g v69_1 v69_2 s69_0 => n = (5000 - 3 * v69_1 - 1).toNat ∧ g 386 81 = 2 + 7 * v69_1 ∧ v69_1 < (s0 388 (s0 386 12).toNat), fun n g v140_1 => n = (4000 - v140_1).toNat ∧ g 386 81 = 2 + 7 * (s0 388 (s0 386 12).toNat) + 2 * v140_1 ∧ (v140_1 = 0 ∨ v140_1 ≤ (s0 388 (s0 386 12).toNat) - 1), fun n g v181_1 v181_2 => n = (1000 - v181_2).toNat ∧ g 386 81 = 2 + 7 * (s0 388 (s0 386 12).toNat) + 2 * (if (s0 388 (s0 386 12).toNat) = 0 then 0 else (s0 388 (s0 386 12).toNat) - 1), ?_, ?_, ?_, ?_, ?_⟩
  · skip
    intro g267 eg267
    intro x271 ex271
    intro x272 
    intro x273 ex273 fx273
    intro g280 eg280
    intro g286 eg286
    intro x291 ex291 fx291
    intro g298 eg298
    intro g304 eg304
    have K : g304 386 81 = 2 := by rw [eg304, zup_eq]
    exact ⟨_, rfl, by omega, h0⟩
  · intro n g v30_1 rg qv30_10 qv30_11 hI
    obtain ⟨hn, hk, hl⟩ := hI
    have hc : g 388 (g 386 12).toNat = (s0 388 (s0 386 12).toNat) := by rw [rg.a (by decide), rg.s (by decide)]
    intro x1 ex1 fx1 gx1
    intro x8 ex8 fx8 gx8
    refine ⟨fun h9 => ?_, fun h9 => ?_⟩
    · skip
      intro x13 ex13 fx13 gx13
      intro x17 ex17
      refine ⟨fun h18 => ?_, fun h18 => ?_⟩
      · skip
        have hy : x8 = (s0 388 (s0 386 12).toNat) := by rw [ex8, ex1, hc]
        exact ⟨_, by omega, rfl, by omega, by omega⟩
      · skip
        have hy : x8 = (s0 388 (s0 386 12).toNat) := by rw [ex8, ex1, hc]
        exact ⟨_, by omega, rfl, by omega, by omega⟩
    · skip
      have hy : x8 = (s0 388 (s0 386 12).toNat) := by rw [ex8, ex1, hc]
      have e7 : v30_1 = (s0 388 (s0 386 12).toNat) := by omega
      exact ⟨_, by omega, rfl, by omega, Or.inl rfl⟩
  · intro n g v69_1 v69_2 s69_0 rg qv69_10 qv69_11 qv69_20 qv69_21 qs69_01 hI
    obtain ⟨hn, hk, hl⟩ := hI
    have hc : g 388 (g 386 12).toNat = (s0 388 (s0 386 12).toNat) := by rw [rg.a (by decide), rg.s (by decide)]
    intro x22 ex22 fx22 gx22
    intro x26 ex26 fx26
    have oh29 : (x22 ≤ 119) := by
      omega
    refine ⟨oh29, ?_⟩
    intro g34 eg34
    intro x36 ex36
    intro g42 eg42
    intro x46 ex46 fx46 gx46
    intro x47 ex47 fx47
    have oh50 : (x36 ≤ 119) := by
      omega
    refine ⟨oh50, ?_⟩
    intro g55 eg55
    intro x57 ex57
    intro g63 eg63
    intro x67 ex67 fx67 gx67
    intro x68 ex68
    intro x70 ex70 fx70
    have oh73 : (x57 ≤ 119) := by
      omega
    refine ⟨oh73, ?_⟩
    intro g78 eg78
    intro x80 ex80
    intro g86 eg86
    intro x90 ex90
    intro x91 ex91 fx91
    have oh94 : (x80 ≤ 119) := by
      omega
    refine ⟨oh94, ?_⟩
    intro g99 eg99
    intro x101 ex101
    intro g107 eg107
    intro x111 ex111 fx111 gx111
    intro x112 ex112
    intro x114 ex114 fx114
    have oh117 : (x101 ≤ 119) := by
      omega
    refine ⟨oh117, ?_⟩
    intro g122 eg122
    intro x124 ex124
    intro g130 eg130
    intro x131 
    intro x132 ex132 fx132
    have oh135 : (x124 ≤ 119) := by
      omega
    refine ⟨oh135, ?_⟩
    intro g140 eg140
    intro x142 ex142
    intro g148 eg148
    intro x149 ex149 fx149
    have oh152 : (x142 ≤ 119) := by
      omega
    refine ⟨oh152, ?_⟩
    intro g157 eg157
    intro x159 ex159
    intro g165 eg165
    intro x166 ex166
    have K : g165 386 81 = x159 := by rw [eg165, zup_eq]
    exact ⟨_, by omega, rfl, by omega, by omega⟩
  · intro n g v140_1 rg qv140_10 qv140_11 hI
    obtain ⟨hn, hk, hl⟩ := hI
    have hc : g 388 (g 386 12).toNat = (s0 388 (s0 386 12).toNat) := by rw [rg.a (by decide), rg.s (by decide)]
    intro x168 ex168 fx168 gx168
    intro x175 ex175 fx175 gx175
    intro x176 ex176
    refine ⟨fun h178 => ?_, fun h178 => ?_⟩
    · skip
      intro x182 ex182 fx182 gx182
      intro x183 ex183 fx183 gx183
      intro x187 ex187 fx187
      have oh190 : (x183 ≤ 119) := by
        omega
      refine ⟨oh190, ?_⟩
      intro g195 eg195
      intro x197 ex197
      intro g203 eg203
      intro x207 ex207
      intro x208 ex208 fx208
      have oh211 : (x197 ≤ 119) := by
        omega
      refine ⟨oh211, ?_⟩
      intro g216 eg216
      intro x218 ex218
      intro g224 eg224
      intro x225 ex225
      have hy : x175 = (s0 388 (s0 386 12).toNat) := by rw [ex175, ex168, hc]
      have K : g224 386 81 = x218 := by rw [eg224, zup_eq]
      exact ⟨_, by omega, rfl, by omega, Or.inr (by omega)⟩
    · skip
      have hy : x175 = (s0 388 (s0 386 12).toNat) := by rw [ex175, ex168, hc]
      refine ⟨_, by omega, rfl, ?_⟩
      by_cases z : (s0 388 (s0 386 12).toNat) = 0
      · rw [if_pos z]
        omega
      · rw [if_neg z]
        omega
  · intro n g v181_1 v181_2 rg qv181_10 qv181_11 qv181_20 qv181_21 hI
    obtain ⟨hn, hk⟩ := hI
    have hif : (if (s0 388 (s0 386 12).toNat) = 0 then (0 : Int) else (s0 388 (s0 386 12).toNat) - 1) ≤ 11 ∧ 0 ≤ (if (s0 388 (s0 386 12).toNat) = 0 then (0 : Int) else (s0 388 (s0 386 12).toNat) - 1) := by
      split <;> omega
    intro x227 ex227 fx227 gx227
    refine ⟨fun h231 => ?_, fun h231 => ?_⟩
    · skip
      intro x232 ex232
      intro x237 ex237 fx237 gx237
      intro x238 ex238
      intro x240 ex240 fx240 gx240
      intro x244 ex244
      exact ⟨_, by omega, rfl, hk⟩
    · skip
      intro x246 ex246 fx246
      have oh249 : (x227 ≤ 119) := by
        omega
      refine ⟨oh249, ?_⟩
      intro g254 eg254
      intro x256 ex256
      intro g262 eg262
      omega
