/-! partial conditions of the reference (wip/safe/vcp.py) -/
set_option maxRecDepth 100000 in
def p_2336 (s0 : zF) (Q : Int → zF → Prop) : Prop :=
  ∃ (I19 : zF → Int → Int → Int → Prop) (I175 : zF → Int → Int → Int → Prop) (I272 : zF → Int → Int → Int → Prop) (I387 : zF → Int → Int → Int → Prop) (I409 : zF → Int → Int → Prop),
    (∀ x949 : Int, x949 = s0 (386) 41 → 0 ≤ x949 → x949 ≤ 20 → ∀ x953 : Int, x953 = x949 - 1 → (0 ≤ x953) → ∀ x959 : Int, x959 = s0 (409) x953.toNat → 0 ≤ x959 → x959 ≤ 5 → (¬ x959 = 1 → (¬ x959 = 5 → I19 s0 x953 x959 0) ∧ (x959 = 5 → I19 s0 x953 x959 1)) ∧ (x959 = 1 → I19 s0 x953 x959 1)) ∧
    (∀ (g : zF) (v19_1 : Int) (v19_2 : Int) (v19_3 : Int), zFr [(407, 412, 1000), (414, 415, 1000), (386, 387, 3), (386, 387, 34), (386, 387, 4), (386, 387, 41), (386, 387, 42), (386, 387, 44), (386, 387, 45), (386, 387, 5), (386, 387, 6), (386, 387, 7), (386, 387, 8), (386, 387, 9)] s0 g → 0 ≤ v19_1 → v19_1 ≤ 19 → 0 ≤ v19_2 → v19_2 ≤ 5 → 0 ≤ v19_3 → v19_3 ≤ 1 → I19 g v19_1 v19_2 v19_3 → ∀ x4 : Int, x4 = g (410) v19_1.toNat → 0 ≤ x4 → x4 ≤ 2 → (x4 < 2 → ∀ x6 : Int, x6 = g (386) 3 → 0 ≤ x6 → x6 ≤ 3 → (¬ x6 = 3 → I175 g v19_1 v19_2 v19_3) ∧ (x6 = 3 → ∀ x11 : Int, x11 = g (386) 6 → (¬ x11 = 43 → (¬ x11 = 45 → (¬ x11 = 42 → (¬ x11 = 47 → (¬ x11 = 37 → I175 g v19_1 v19_2 v19_3) ∧ (x11 = 37 → ∀ g25 : zF, zFr [(407, 409, 1000), (386, 387, 34), (386, 387, 44)] g g25 → ∀ g34 : zF, zFr [(414, 415, 1000), (386, 387, 44)] g25 g34 → ∃ P38 : zF → Prop, p_2310 g34 P38 ∧ ∀ g41 : zF, zFr [(386, 387, 3), (386, 387, 4), (386, 387, 5), (386, 387, 6), (386, 387, 7), (386, 387, 8), (386, 387, 9)] g34 g41 → P38 g41 → ∀ g47 : zF, g47 = zup g41 (386) 45 0 → Q 1 g47)) ∧ (x11 = 47 → ∀ g53 : zF, zFr [(407, 409, 1000), (386, 387, 34), (386, 387, 44)] g g53 → ∀ g62 : zF, zFr [(414, 415, 1000), (386, 387, 44)] g53 g62 → ∃ P66 : zF → Prop, p_2310 g62 P66 ∧ ∀ g69 : zF, zFr [(386, 387, 3), (386, 387, 4), (386, 387, 5), (386, 387, 6), (386, 387, 7), (386, 387, 8), (386, 387, 9)] g62 g69 → P66 g69 → ∀ g75 : zF, g75 = zup g69 (386) 45 0 → Q 1 g75)) ∧ (x11 = 42 → ∀ g81 : zF, zFr [(407, 409, 1000), (386, 387, 34), (386, 387, 44)] g g81 → ∀ g90 : zF, zFr [(414, 415, 1000), (386, 387, 44)] g81 g90 → ∃ P94 : zF → Prop, p_2310 g90 P94 ∧ ∀ g97 : zF, zFr [(386, 387, 3), (386, 387, 4), (386, 387, 5), (386, 387, 6), (386, 387, 7), (386, 387, 8), (386, 387, 9)] g90 g97 → P94 g97 → ∀ g103 : zF, g103 = zup g97 (386) 45 0 → Q 1 g103)) ∧ (x11 = 45 → ∀ g109 : zF, zFr [(407, 409, 1000), (386, 387, 34), (386, 387, 44)] g g109 → ∀ g118 : zF, zFr [(414, 415, 1000), (386, 387, 44)] g109 g118 → ∃ P122 : zF → Prop, p_2310 g118 P122 ∧ ∀ g125 : zF, zFr [(386, 387, 3), (386, 387, 4), (386, 387, 5), (386, 387, 6), (386, 387, 7), (386, 387, 8), (386, 387, 9)] g118 g125 → P122 g125 → ∀ g131 : zF, g131 = zup g125 (386) 45 0 → Q 1 g131)) ∧ (x11 = 43 → ∀ g137 : zF, zFr [(407, 409, 1000), (386, 387, 34), (386, 387, 44)] g g137 → ∀ g146 : zF, zFr [(414, 415, 1000), (386, 387, 44)] g137 g146 → ∃ P150 : zF → Prop, p_2310 g146 P150 ∧ ∀ g153 : zF, zFr [(386, 387, 3), (386, 387, 4), (386, 387, 5), (386, 387, 6), (386, 387, 7), (386, 387, 8), (386, 387, 9)] g146 g153 → P150 g153 → ∀ g159 : zF, g159 = zup g153 (386) 45 0 → Q 1 g159))) ∧ (2 ≤ x4 → I175 g v19_1 v19_2 v19_3)) ∧
    (∀ (g : zF) (v175_1 : Int) (v175_2 : Int) (v175_3 : Int), zFr [(407, 412, 1000), (414, 415, 1000), (386, 387, 3), (386, 387, 34), (386, 387, 4), (386, 387, 41), (386, 387, 42), (386, 387, 44), (386, 387, 45), (386, 387, 5), (386, 387, 6), (386, 387, 7), (386, 387, 8), (386, 387, 9)] s0 g → 0 ≤ v175_1 → v175_1 ≤ 19 → 0 ≤ v175_2 → v175_2 ≤ 5 → 0 ≤ v175_3 → v175_3 ≤ 1 → I175 g v175_1 v175_2 v175_3 → (¬ v175_3 = 0 → ∀ x164 : Int, x164 = g (410) v175_1.toNat → 0 ≤ x164 → x164 ≤ 2 → (¬ x164 = 0 → I272 g v175_1 v175_2 v175_3) ∧ (x164 = 0 → ∀ x166 : Int, x166 = g (386) 3 → 0 ≤ x166 → x166 ≤ 3 → (¬ x166 = 3 → I272 g v175_1 v175_2 v175_3) ∧ (x166 = 3 → ∀ x171 : Int, x171 = g (386) 6 → (¬ x171 = 60 → (¬ x171 = 62 → (¬ x171 = 61 → I272 g v175_1 v175_2 v175_3) ∧ (x171 = 61 → ∀ g183 : zF, zFr [(407, 409, 1000), (386, 387, 34), (386, 387, 44)] g g183 → ∀ g192 : zF, zFr [(414, 415, 1000), (386, 387, 44)] g183 g192 → ∀ g198 : zF, g198 = zup g192 (410) v175_1.toNat 1 → ∃ P201 : zF → Prop, p_2310 g198 P201 ∧ ∀ g204 : zF, zFr [(386, 387, 3), (386, 387, 4), (386, 387, 5), (386, 387, 6), (386, 387, 7), (386, 387, 8), (386, 387, 9)] g198 g204 → P201 g204 → ∀ g210 : zF, g210 = zup g204 (386) 45 0 → Q 1 g210)) ∧ (x171 = 62 → ∀ g216 : zF, zFr [(407, 409, 1000), (386, 387, 34), (386, 387, 44)] g g216 → ∀ g225 : zF, zFr [(414, 415, 1000), (386, 387, 44)] g216 g225 → ∀ g231 : zF, g231 = zup g225 (410) v175_1.toNat 1 → ∃ P234 : zF → Prop, p_2310 g231 P234 ∧ ∀ g237 : zF, zFr [(386, 387, 3), (386, 387, 4), (386, 387, 5), (386, 387, 6), (386, 387, 7), (386, 387, 8), (386, 387, 9)] g231 g237 → P234 g237 → ∀ g243 : zF, g243 = zup g237 (386) 45 0 → Q 1 g243)) ∧ (x171 = 60 → ∀ g249 : zF, zFr [(407, 409, 1000), (386, 387, 34), (386, 387, 44)] g g249 → ∀ g258 : zF, zFr [(414, 415, 1000), (386, 387, 44)] g249 g258 → ∀ g264 : zF, g264 = zup g258 (410) v175_1.toNat 1 → ∃ P267 : zF → Prop, p_2310 g264 P267 ∧ ∀ g270 : zF, zFr [(386, 387, 3), (386, 387, 4), (386, 387, 5), (386, 387, 6), (386, 387, 7), (386, 387, 8), (386, 387, 9)] g264 g270 → P267 g270 → ∀ g276 : zF, g276 = zup g270 (386) 45 0 → Q 1 g276)))) ∧ (v175_3 = 0 → I272 g v175_1 v175_2 v175_3)) ∧
    (∀ (g : zF) (v272_1 : Int) (v272_2 : Int) (v272_3 : Int), zFr [(407, 412, 1000), (414, 415, 1000), (386, 387, 3), (386, 387, 34), (386, 387, 4), (386, 387, 41), (386, 387, 42), (386, 387, 44), (386, 387, 45), (386, 387, 5), (386, 387, 6), (386, 387, 7), (386, 387, 8), (386, 387, 9)] s0 g → 0 ≤ v272_1 → v272_1 ≤ 19 → 0 ≤ v272_2 → v272_2 ≤ 5 → 0 ≤ v272_3 → v272_3 ≤ 1 → I272 g v272_1 v272_2 v272_3 → (¬ v272_3 = 0 → ∀ x278 : Int, x278 = g (386) 3 → 0 ≤ x278 → x278 ≤ 3 → (¬ x278 = 1 → (¬ x278 = 1 → I387 g v272_1 v272_2 v272_3) ∧ (x278 = 1 → ∀ y287 : Int, y287 = g (386) 7 → ∀ x288 : Int, (x288 = -1 ∧ y287 < 28530 ∨ x288 = 0 ∧ y287 = 28530 ∨ x288 = 1 ∧ 28530 < y287) → (¬ x288 = 0 → I387 g v272_1 v272_2 v272_3) ∧ (x288 = 0 → ∀ x294 : Int, x294 = g (410) v272_1.toNat → 0 ≤ x294 → x294 ≤ 2 → (¬ x294 = 0 → ∀ x296 : Int, x296 = g (386) 8 → 0 ≤ x296 → x296 ≤ 5 → (0 < x296 → Q 0 g) ∧ (x296 ≤ 0 → ∀ x301 : Int, (x301 = -1 ∧ y287 < 6385252 ∨ x301 = 0 ∧ y287 = 6385252 ∨ x301 = 1 ∧ 6385252 < y287) → (¬ x301 = 0 → ∀ g309 : zF, zFr [(407, 409, 1000), (386, 387, 34), (386, 387, 44)] g g309 → ∀ g316 : zF, zFr [(414, 415, 1000), (386, 387, 44)] g309 g316 → ∀ g322 : zF, g322 = zup g316 (410) v272_1.toNat 0 → ∀ g327 : zF, g327 = zup g322 (411) v272_1.toNat 1 → ∃ P330 : zF → Prop, p_2310 g327 P330 ∧ ∀ g333 : zF, zFr [(386, 387, 3), (386, 387, 4), (386, 387, 5), (386, 387, 6), (386, 387, 7), (386, 387, 8), (386, 387, 9)] g327 g333 → P330 g333 → ∀ g339 : zF, g339 = zup g333 (386) 45 0 → Q 1 g339) ∧ (x301 = 0 → ∀ g345 : zF, zFr [(407, 409, 1000), (386, 387, 34), (386, 387, 44)] g g345 → ∀ g352 : zF, zFr [(414, 415, 1000), (386, 387, 44)] g345 g352 → ∀ g358 : zF, g358 = zup g352 (410) v272_1.toNat 0 → ∀ g363 : zF, g363 = zup g358 (411) v272_1.toNat 1 → ∃ P366 : zF → Prop, p_2310 g363 P366 ∧ ∀ g369 : zF, zFr [(386, 387, 3), (386, 387, 4), (386, 387, 5), (386, 387, 6), (386, 387, 7), (386, 387, 8), (386, 387, 9)] g363 g369 → P366 g369 → ∀ g375 : zF, g375 = zup g369 (386) 45 0 → Q 1 g375))) ∧ (x294 = 0 → ∀ x376 : Int, x376 = g (386) 4 → 0 ≤ x376 → x376 ≤ 1600 → ∀ x380 : Int, x380 = g (386) 8 → 0 ≤ x380 → x380 ≤ 5 → (0 < x380 → Q 0 g) ∧ (x380 ≤ 0 → ∀ g389 : zF, g389 = zup g (386) 8 1 → ∀ g394 : zF, g394 = zup g389 (386) 9 x376 → Q 0 g394))))) ∧ (x278 = 1 → ∀ y399 : Int, y399 = g (386) 7 → ∀ x400 : Int, (x400 = -1 ∧ y399 < 6385252 ∨ x400 = 0 ∧ y399 = 6385252 ∨ x400 = 1 ∧ 6385252 < y399) → (¬ x400 = 0 → ∀ x403 : Int, (x403 = -1 ∧ y399 < 28530 ∨ x403 = 0 ∧ y399 = 28530 ∨ x403 = 1 ∧ 28530 < y399) → (¬ x403 = 0 → I387 g v272_1 v272_2 v272_3) ∧ (x403 = 0 → ∀ x409 : Int, x409 = g (410) v272_1.toNat → 0 ≤ x409 → x409 ≤ 2 → (¬ x409 = 0 → ∀ x411 : Int, x411 = g (386) 8 → 0 ≤ x411 → x411 ≤ 5 → (0 < x411 → Q 0 g) ∧ (x411 ≤ 0 → ∀ x416 : Int, (x416 = -1 ∧ y399 < 6385252 ∨ x416 = 0 ∧ y399 = 6385252 ∨ x416 = 1 ∧ 6385252 < y399) → (¬ x416 = 0 → ∀ g424 : zF, zFr [(407, 409, 1000), (386, 387, 34), (386, 387, 44)] g g424 → ∀ g431 : zF, zFr [(414, 415, 1000), (386, 387, 44)] g424 g431 → ∀ g437 : zF, g437 = zup g431 (410) v272_1.toNat 0 → ∀ g442 : zF, g442 = zup g437 (411) v272_1.toNat 1 → ∃ P445 : zF → Prop, p_2310 g442 P445 ∧ ∀ g448 : zF, zFr [(386, 387, 3), (386, 387, 4), (386, 387, 5), (386, 387, 6), (386, 387, 7), (386, 387, 8), (386, 387, 9)] g442 g448 → P445 g448 → ∀ g454 : zF, g454 = zup g448 (386) 45 0 → Q 1 g454) ∧ (x416 = 0 → ∀ g460 : zF, zFr [(407, 409, 1000), (386, 387, 34), (386, 387, 44)] g g460 → ∀ g467 : zF, zFr [(414, 415, 1000), (386, 387, 44)] g460 g467 → ∀ g473 : zF, g473 = zup g467 (410) v272_1.toNat 0 → ∀ g478 : zF, g478 = zup g473 (411) v272_1.toNat 1 → ∃ P481 : zF → Prop, p_2310 g478 P481 ∧ ∀ g484 : zF, zFr [(386, 387, 3), (386, 387, 4), (386, 387, 5), (386, 387, 6), (386, 387, 7), (386, 387, 8), (386, 387, 9)] g478 g484 → P481 g484 → ∀ g490 : zF, g490 = zup g484 (386) 45 0 → Q 1 g490))) ∧ (x409 = 0 → ∀ x491 : Int, x491 = g (386) 4 → 0 ≤ x491 → x491 ≤ 1600 → ∀ x495 : Int, x495 = g (386) 8 → 0 ≤ x495 → x495 ≤ 5 → (0 < x495 → Q 0 g) ∧ (x495 ≤ 0 → ∀ g504 : zF, g504 = zup g (386) 8 1 → ∀ g509 : zF, g509 = zup g504 (386) 9 x491 → Q 0 g509)))) ∧ (x400 = 0 → ∀ x514 : Int, x514 = g (410) v272_1.toNat → 0 ≤ x514 → x514 ≤ 2 → (¬ x514 = 0 → ∀ x516 : Int, x516 = g (386) 8 → 0 ≤ x516 → x516 ≤ 5 → (0 < x516 → Q 0 g) ∧ (x516 ≤ 0 → ∀ x521 : Int, (x521 = -1 ∧ y399 < 6385252 ∨ x521 = 0 ∧ y399 = 6385252 ∨ x521 = 1 ∧ 6385252 < y399) → (¬ x521 = 0 → ∀ g529 : zF, zFr [(407, 409, 1000), (386, 387, 34), (386, 387, 44)] g g529 → ∀ g536 : zF, zFr [(414, 415, 1000), (386, 387, 44)] g529 g536 → ∀ g542 : zF, g542 = zup g536 (410) v272_1.toNat 0 → ∀ g547 : zF, g547 = zup g542 (411) v272_1.toNat 1 → ∃ P550 : zF → Prop, p_2310 g547 P550 ∧ ∀ g553 : zF, zFr [(386, 387, 3), (386, 387, 4), (386, 387, 5), (386, 387, 6), (386, 387, 7), (386, 387, 8), (386, 387, 9)] g547 g553 → P550 g553 → ∀ g559 : zF, g559 = zup g553 (386) 45 0 → Q 1 g559) ∧ (x521 = 0 → ∀ g565 : zF, zFr [(407, 409, 1000), (386, 387, 34), (386, 387, 44)] g g565 → ∀ g572 : zF, zFr [(414, 415, 1000), (386, 387, 44)] g565 g572 → ∀ g578 : zF, g578 = zup g572 (410) v272_1.toNat 0 → ∀ g583 : zF, g583 = zup g578 (411) v272_1.toNat 1 → ∃ P586 : zF → Prop, p_2310 g583 P586 ∧ ∀ g589 : zF, zFr [(386, 387, 3), (386, 387, 4), (386, 387, 5), (386, 387, 6), (386, 387, 7), (386, 387, 8), (386, 387, 9)] g583 g589 → P586 g589 → ∀ g595 : zF, g595 = zup g589 (386) 45 0 → Q 1 g595))) ∧ (x514 = 0 → ∀ x596 : Int, x596 = g (386) 4 → 0 ≤ x596 → x596 ≤ 1600 → ∀ x600 : Int, x600 = g (386) 8 → 0 ≤ x600 → x600 ≤ 5 → (0 < x600 → Q 0 g) ∧ (x600 ≤ 0 → ∀ g609 : zF, g609 = zup g (386) 8 1 → ∀ g614 : zF, g614 = zup g609 (386) 9 x596 → Q 0 g614))))) ∧ (v272_3 = 0 → I387 g v272_1 v272_2 v272_3)) ∧
    (∀ (g : zF) (v387_1 : Int) (v387_2 : Int) (v387_3 : Int), zFr [(407, 412, 1000), (414, 415, 1000), (386, 387, 3), (386, 387, 34), (386, 387, 4), (386, 387, 41), (386, 387, 42), (386, 387, 44), (386, 387, 45), (386, 387, 5), (386, 387, 6), (386, 387, 7), (386, 387, 8), (386, 387, 9)] s0 g → 0 ≤ v387_1 → v387_1 ≤ 19 → 0 ≤ v387_2 → v387_2 ≤ 5 → 0 ≤ v387_3 → v387_3 ≤ 1 → I387 g v387_1 v387_2 v387_3 → (¬ v387_3 = 0 → ∀ x620 : Int, x620 = g (410) v387_1.toNat → 0 ≤ x620 → x620 ≤ 2 → (¬ x620 = 0 → I409 g v387_1 v387_2) ∧ (x620 = 0 → ∀ x622 : Int, x622 = g (386) 4 → 0 ≤ x622 → x622 ≤ 1600 → ∀ x626 : Int, x626 = g (386) 8 → 0 ≤ x626 → x626 ≤ 5 → (0 < x626 → I409 g v387_1 v387_2) ∧ (x626 ≤ 0 → ∀ g635 : zF, g635 = zup g (386) 8 1 → ∀ g640 : zF, g640 = zup g635 (386) 9 x622 → I409 g640 v387_1 v387_2))) ∧ (v387_3 = 0 → I409 g v387_1 v387_2)) ∧
    (∀ (g : zF) (v409_1 : Int) (v409_2 : Int), zFr [(407, 412, 1000), (414, 415, 1000), (386, 387, 3), (386, 387, 34), (386, 387, 4), (386, 387, 41), (386, 387, 42), (386, 387, 44), (386, 387, 45), (386, 387, 5), (386, 387, 6), (386, 387, 7), (386, 387, 8), (386, 387, 9)] s0 g → 0 ≤ v409_1 → v409_1 ≤ 19 → 0 ≤ v409_2 → v409_2 ≤ 5 → I409 g v409_1 v409_2 → (v409_2 < 2 → ∀ x642 : Int, x642 = g (386) 8 → 0 ≤ x642 → x642 ≤ 5 → (¬ x642 = 0 → Q 0 g) ∧ (x642 = 0 → ∀ g652 : zF, zFr [(407, 409, 1000), (386, 387, 34), (386, 387, 44)] g g652 → Q 0 g652)) ∧ (2 ≤ v409_2 → (¬ v409_2 = 3 → (¬ v409_2 = 5 → ∀ x656 : Int, x656 = g (386) 3 → 0 ≤ x656 → x656 ≤ 3 → (¬ x656 = 3 → ∀ x661 : Int, x661 = g (386) 4 → 0 ≤ x661 → x661 ≤ 1600 → ∀ x665 : Int, x665 = g (386) 8 → 0 ≤ x665 → x665 ≤ 5 → (0 < x665 → Q 0 g) ∧ (x665 ≤ 0 → ∀ g674 : zF, g674 = zup g (386) 8 1 → ∀ g679 : zF, g679 = zup g674 (386) 9 x661 → Q 0 g679)) ∧ (x656 = 3 → ∀ x681 : Int, x681 = g (386) 6 → (¬ x681 = 41 → ∀ x686 : Int, x686 = g (386) 4 → 0 ≤ x686 → x686 ≤ 1600 → ∀ x690 : Int, x690 = g (386) 8 → 0 ≤ x690 → x690 ≤ 5 → (0 < x690 → Q 0 g) ∧ (x690 ≤ 0 → ∀ g699 : zF, g699 = zup g (386) 8 1 → ∀ g704 : zF, g704 = zup g699 (386) 9 x686 → Q 0 g704)) ∧ (x681 = 41 → ∀ x706 : Int, x706 = g (386) 8 → 0 ≤ x706 → x706 ≤ 5 → (0 < x706 → Q 0 g) ∧ (x706 ≤ 0 → ∀ g716 : zF, zFr [(407, 409, 1000), (386, 387, 34), (386, 387, 44)] g g716 → ∀ x718 : Int, x718 = g716 (386) 41 → 0 ≤ x718 → x718 ≤ 20 → ∀ x722 : Int, x722 = x718 - 1 → (0 ≤ x722) → ∀ g729 : zF, g729 = zup g716 (386) 41 x722 → ∀ x730 : Int, x730 = g729 (386) 42 → 0 ≤ x730 → x730 ≤ 8 → ∀ x734 : Int, x734 = x730 - 1 → (0 ≤ x734) → ∀ g741 : zF, g741 = zup g729 (386) 42 x734 → (¬ v409_2 = 4 → ∃ P745 : zF → Prop, p_2310 g741 P745 ∧ ∀ g748 : zF, zFr [(386, 387, 3), (386, 387, 4), (386, 387, 5), (386, 387, 6), (386, 387, 7), (386, 387, 8), (386, 387, 9)] g741 g748 → P745 g748 → Q 1 g748) ∧ (v409_2 = 4 → ∀ x753 : Int, x753 = g741 (412) v409_1.toNat → 0 ≤ x753 → x753 ≤ 16 → ∀ g759 : zF, zFr [(407, 409, 1000), (386, 387, 34)] g741 g759 → ∃ P763 : zF → Prop, p_2310 g759 P763 ∧ ∀ g766 : zF, zFr [(386, 387, 3), (386, 387, 4), (386, 387, 5), (386, 387, 6), (386, 387, 7), (386, 387, 8), (386, 387, 9)] g759 g766 → P763 g766 → Q 1 g766))))) ∧ (v409_2 = 5 → ∀ x768 : Int, x768 = g (386) 3 → 0 ≤ x768 → x768 ≤ 3 → (¬ x768 = 3 → ∀ x773 : Int, x773 = g (386) 4 → 0 ≤ x773 → x773 ≤ 1600 → ∀ x777 : Int, x777 = g (386) 8 → 0 ≤ x777 → x777 ≤ 5 → (0 < x777 → Q 0 g) ∧ (x777 ≤ 0 → ∀ g786 : zF, g786 = zup g (386) 8 1 → ∀ g791 : zF, g791 = zup g786 (386) 9 x773 → Q 0 g791)) ∧ (x768 = 3 → ∀ x793 : Int, x793 = g (386) 6 → (¬ x793 = 93 → ∀ x798 : Int, x798 = g (386) 4 → 0 ≤ x798 → x798 ≤ 1600 → ∀ x802 : Int, x802 = g (386) 8 → 0 ≤ x802 → x802 ≤ 5 → (0 < x802 → Q 0 g) ∧ (x802 ≤ 0 → ∀ g811 : zF, g811 = zup g (386) 8 1 → ∀ g816 : zF, g816 = zup g811 (386) 9 x798 → Q 0 g816)) ∧ (x793 = 93 → ∀ x818 : Int, x818 = g (386) 8 → 0 ≤ x818 → x818 ≤ 5 → (0 < x818 → Q 0 g) ∧ (x818 ≤ 0 → ∀ g828 : zF, zFr [(407, 409, 1000), (386, 387, 34), (386, 387, 44)] g g828 → ∀ x830 : Int, x830 = g828 (386) 41 → 0 ≤ x830 → x830 ≤ 20 → ∀ x834 : Int, x834 = x830 - 1 → (0 ≤ x834) → ∀ g841 : zF, g841 = zup g828 (386) 41 x834 → ∀ x842 : Int, x842 = g841 (386) 42 → 0 ≤ x842 → x842 ≤ 8 → ∀ x846 : Int, x846 = x842 - 1 → (0 ≤ x846) → ∀ g853 : zF, g853 = zup g841 (386) 42 x846 → ∀ x855 : Int, x855 = x834 - 1 → (0 ≤ x855) → ∀ g862 : zF, g862 = zup g853 (410) x855.toNat 2 → ∃ P865 : zF → Prop, p_2310 g862 P865 ∧ ∀ g868 : zF, zFr [(386, 387, 3), (386, 387, 4), (386, 387, 5), (386, 387, 6), (386, 387, 7), (386, 387, 8), (386, 387, 9)] g862 g868 → P865 g868 → Q 1 g868))))) ∧ (v409_2 = 3 → ∀ x870 : Int, x870 = g (386) 3 → 0 ≤ x870 → x870 ≤ 3 → (¬ x870 = 3 → ∀ x875 : Int, x875 = g (386) 4 → 0 ≤ x875 → x875 ≤ 1600 → ∀ x879 : Int, x879 = g (386) 8 → 0 ≤ x879 → x879 ≤ 5 → (0 < x879 → Q 0 g) ∧ (x879 ≤ 0 → ∀ g888 : zF, g888 = zup g (386) 8 1 → ∀ g893 : zF, g893 = zup g888 (386) 9 x875 → Q 0 g893)) ∧ (x870 = 3 → ∀ x895 : Int, x895 = g (386) 6 → (¬ x895 = 44 → ∀ x900 : Int, x900 = g (386) 4 → 0 ≤ x900 → x900 ≤ 1600 → ∀ x904 : Int, x904 = g (386) 8 → 0 ≤ x904 → x904 ≤ 5 → (0 < x904 → Q 0 g) ∧ (x904 ≤ 0 → ∀ g913 : zF, g913 = zup g (386) 8 1 → ∀ g918 : zF, g918 = zup g913 (386) 9 x900 → Q 0 g918)) ∧ (x895 = 44 → ∀ x920 : Int, x920 = g (386) 8 → 0 ≤ x920 → x920 ≤ 5 → (0 < x920 → Q 0 g) ∧ (x920 ≤ 0 → ∀ g930 : zF, zFr [(407, 409, 1000), (386, 387, 34), (386, 387, 44)] g g930 → ∀ g936 : zF, g936 = zup g930 (409) v409_1.toNat 4 → ∃ P939 : zF → Prop, p_2310 g936 P939 ∧ ∀ g942 : zF, zFr [(386, 387, 3), (386, 387, 4), (386, 387, 5), (386, 387, 6), (386, 387, 7), (386, 387, 8), (386, 387, 9)] g936 g942 → P939 g942 → ∀ g948 : zF, g948 = zup g942 (386) 45 0 → Q 1 g948))))))
set_option maxRecDepth 100000 in
theorem cj_2336 {s0 : zF} {Q1 Q2 : Int → zF → Prop} (h1 : b_2336 s0 Q1) (h2 : p_2336 s0 Q2) : b_2336 s0 (fun v g => Q1 v g ∧ Q2 v g) := by
  obtain ⟨I19, I175, I272, I387, I409, h1E, h1_0, h1_1, h1_2, h1_3, h1_4⟩ := h1
  obtain ⟨J19, J175, J272, J387, J409, h2E, h2_0, h2_1, h2_2, h2_3, h2_4⟩ := h2
  refine ⟨fun n g y0 y1 y2 => I19 n g y0 y1 y2 ∧ J19 g y0 y1 y2, fun n g y0 y1 y2 => I175 n g y0 y1 y2 ∧ J175 g y0 y1 y2, fun n g y0 y1 y2 => I272 n g y0 y1 y2 ∧ J272 g y0 y1 y2, fun n g y0 y1 y2 => I387 n g y0 y1 y2 ∧ J387 g y0 y1 y2, fun n g y0 y1 => I409 n g y0 y1 ∧ J409 g y0 y1, ?_, ?_, ?_, ?_, ?_, ?_⟩
  · have h1 := h1E
    have h2 := h2E
    clear h1E h2E h1_0 h2_0 h1_1 h2_1 h1_2 h2_2 h1_3 h2_3 h1_4 h2_4
    intro x949 a2_0 a2_1 a2_2 x953 a2_3
    replace h1 := h1 x949 a2_0 a2_1 a2_2 x953 a2_3
    replace h2 := h2 x949 a2_0 a2_1 a2_2 x953 a2_3
    refine ⟨h1.1, ?_⟩
    replace h2 := h2 h1.1
    replace h1 := h1.2
    intro x959 a2_0 a2_1 a2_2
    replace h1 := h1 x959 a2_0 a2_1 a2_2
    replace h2 := h2 x959 a2_0 a2_1 a2_2
    refine ⟨fun z => ?_, fun z => ?_⟩
    · replace h1 := h1.1 z
      replace h2 := h2.1 z
      refine ⟨fun z => ?_, fun z => ?_⟩
      · replace h1 := h1.1 z
        replace h2 := h2.1 z
        obtain ⟨m, hi⟩ := h1
        exact ⟨m, hi, h2⟩
      · replace h1 := h1.2 z
        replace h2 := h2.2 z
        obtain ⟨m, hi⟩ := h1
        exact ⟨m, hi, h2⟩
    · replace h1 := h1.2 z
      replace h2 := h2.2 z
      obtain ⟨m, hi⟩ := h1
      exact ⟨m, hi, h2⟩
  · intro n g v19_1 v19_2 v19_3 e0 e1 e2 e3 e4 e5 e6 hI
    have h1 := h1_0 n g v19_1 v19_2 v19_3 e0 e1 e2 e3 e4 e5 e6 hI.1
    have h2 := h2_0 g v19_1 v19_2 v19_3 e0 e1 e2 e3 e4 e5 e6 hI.2
    clear h1E h2E hI h1_0 h2_0 h1_1 h2_1 h1_2 h2_2 h1_3 h2_3 h1_4 h2_4
    intro x4 a2_0 a2_1 a2_2
    replace h1 := h1 x4 a2_0 a2_1 a2_2
    replace h2 := h2 x4 a2_0 a2_1 a2_2
    refine ⟨fun z => ?_, fun z => ?_⟩
    · replace h1 := h1.1 z
      replace h2 := h2.1 z
      intro x6 a3_0 a3_1 a3_2
      replace h1 := h1 x6 a3_0 a3_1 a3_2
      replace h2 := h2 x6 a3_0 a3_1 a3_2
      refine ⟨fun z => ?_, fun z => ?_⟩
      · replace h1 := h1.1 z
        replace h2 := h2.1 z
        obtain ⟨m, hm, hi⟩ := h1
        exact ⟨m, hm, hi, h2⟩
      · replace h1 := h1.2 z
        replace h2 := h2.2 z
        intro x11 a4_0
        replace h1 := h1 x11 a4_0
        replace h2 := h2 x11 a4_0
        refine ⟨fun z => ?_, fun z => ?_⟩
        · replace h1 := h1.1 z
          replace h2 := h2.1 z
          refine ⟨fun z => ?_, fun z => ?_⟩
          · replace h1 := h1.1 z
            replace h2 := h2.1 z
            refine ⟨fun z => ?_, fun z => ?_⟩
            · replace h1 := h1.1 z
              replace h2 := h2.1 z
              refine ⟨fun z => ?_, fun z => ?_⟩
              · replace h1 := h1.1 z
                replace h2 := h2.1 z
                refine ⟨fun z => ?_, fun z => ?_⟩
                · replace h1 := h1.1 z
                  replace h2 := h2.1 z
                  obtain ⟨m, hm, hi⟩ := h1
                  exact ⟨m, hm, hi, h2⟩
                · replace h1 := h1.2 z
                  replace h2 := h2.2 z
                  obtain ⟨P1, c1, h1⟩ := h1
                  refine ⟨P1, c1, ?_⟩
                  intro g25 a9_0 a9_1
                  replace h1 := h1 g25 a9_0 a9_1
                  replace h2 := h2 g25 a9_0
                  obtain ⟨P1, c1, h1⟩ := h1
                  refine ⟨P1, c1, ?_⟩
                  intro g34 a9_0 a9_1
                  replace h1 := h1 g34 a9_0 a9_1
                  replace h2 := h2 g34 a9_0
                  obtain ⟨P1, c1, h1⟩ := h1
                  obtain ⟨P2, c2, h2⟩ := h2
                  refine ⟨fun g => P1 g ∧ P2 g, cj_2310 c1 c2, ?_⟩
                  intro g41 a9_0 a9_1 g47 a9_2
                  replace h1 := h1 g41 a9_0 a9_1.1 g47 a9_2
                  replace h2 := h2 g41 a9_0 a9_1.2 g47 a9_2
                  exact ⟨h1, h2⟩
              · replace h1 := h1.2 z
                replace h2 := h2.2 z
                obtain ⟨P1, c1, h1⟩ := h1
                refine ⟨P1, c1, ?_⟩
                intro g53 a8_0 a8_1
                replace h1 := h1 g53 a8_0 a8_1
                replace h2 := h2 g53 a8_0
                obtain ⟨P1, c1, h1⟩ := h1
                refine ⟨P1, c1, ?_⟩
                intro g62 a8_0 a8_1
                replace h1 := h1 g62 a8_0 a8_1
                replace h2 := h2 g62 a8_0
                obtain ⟨P1, c1, h1⟩ := h1
                obtain ⟨P2, c2, h2⟩ := h2
                refine ⟨fun g => P1 g ∧ P2 g, cj_2310 c1 c2, ?_⟩
                intro g69 a8_0 a8_1 g75 a8_2
                replace h1 := h1 g69 a8_0 a8_1.1 g75 a8_2
                replace h2 := h2 g69 a8_0 a8_1.2 g75 a8_2
                exact ⟨h1, h2⟩
            · replace h1 := h1.2 z
              replace h2 := h2.2 z
              obtain ⟨P1, c1, h1⟩ := h1
              refine ⟨P1, c1, ?_⟩
              intro g81 a7_0 a7_1
              replace h1 := h1 g81 a7_0 a7_1
              replace h2 := h2 g81 a7_0
              obtain ⟨P1, c1, h1⟩ := h1
              refine ⟨P1, c1, ?_⟩
              intro g90 a7_0 a7_1
              replace h1 := h1 g90 a7_0 a7_1
              replace h2 := h2 g90 a7_0
              obtain ⟨P1, c1, h1⟩ := h1
              obtain ⟨P2, c2, h2⟩ := h2
              refine ⟨fun g => P1 g ∧ P2 g, cj_2310 c1 c2, ?_⟩
              intro g97 a7_0 a7_1 g103 a7_2
              replace h1 := h1 g97 a7_0 a7_1.1 g103 a7_2
              replace h2 := h2 g97 a7_0 a7_1.2 g103 a7_2
              exact ⟨h1, h2⟩
          · replace h1 := h1.2 z
            replace h2 := h2.2 z
            obtain ⟨P1, c1, h1⟩ := h1
            refine ⟨P1, c1, ?_⟩
            intro g109 a6_0 a6_1
            replace h1 := h1 g109 a6_0 a6_1
            replace h2 := h2 g109 a6_0
            obtain ⟨P1, c1, h1⟩ := h1
            refine ⟨P1, c1, ?_⟩
            intro g118 a6_0 a6_1
            replace h1 := h1 g118 a6_0 a6_1
            replace h2 := h2 g118 a6_0
            obtain ⟨P1, c1, h1⟩ := h1
            obtain ⟨P2, c2, h2⟩ := h2
            refine ⟨fun g => P1 g ∧ P2 g, cj_2310 c1 c2, ?_⟩
            intro g125 a6_0 a6_1 g131 a6_2
            replace h1 := h1 g125 a6_0 a6_1.1 g131 a6_2
            replace h2 := h2 g125 a6_0 a6_1.2 g131 a6_2
            exact ⟨h1, h2⟩
        · replace h1 := h1.2 z
          replace h2 := h2.2 z
          obtain ⟨P1, c1, h1⟩ := h1
          refine ⟨P1, c1, ?_⟩
          intro g137 a5_0 a5_1
          replace h1 := h1 g137 a5_0 a5_1
          replace h2 := h2 g137 a5_0
          obtain ⟨P1, c1, h1⟩ := h1
          refine ⟨P1, c1, ?_⟩
          intro g146 a5_0 a5_1
          replace h1 := h1 g146 a5_0 a5_1
          replace h2 := h2 g146 a5_0
          obtain ⟨P1, c1, h1⟩ := h1
          obtain ⟨P2, c2, h2⟩ := h2
          refine ⟨fun g => P1 g ∧ P2 g, cj_2310 c1 c2, ?_⟩
          intro g153 a5_0 a5_1 g159 a5_2
          replace h1 := h1 g153 a5_0 a5_1.1 g159 a5_2
          replace h2 := h2 g153 a5_0 a5_1.2 g159 a5_2
          exact ⟨h1, h2⟩
    · replace h1 := h1.2 z
      replace h2 := h2.2 z
      obtain ⟨m, hm, hi⟩ := h1
      exact ⟨m, hm, hi, h2⟩
  · intro n g v175_1 v175_2 v175_3 e0 e1 e2 e3 e4 e5 e6 hI
    have h1 := h1_1 n g v175_1 v175_2 v175_3 e0 e1 e2 e3 e4 e5 e6 hI.1
    have h2 := h2_1 g v175_1 v175_2 v175_3 e0 e1 e2 e3 e4 e5 e6 hI.2
    clear h1E h2E hI h1_0 h2_0 h1_1 h2_1 h1_2 h2_2 h1_3 h2_3 h1_4 h2_4
    refine ⟨fun z => ?_, fun z => ?_⟩
    · replace h1 := h1.1 z
      replace h2 := h2.1 z
      intro x164 a3_0 a3_1 a3_2
      replace h1 := h1 x164 a3_0 a3_1 a3_2
      replace h2 := h2 x164 a3_0 a3_1 a3_2
      refine ⟨fun z => ?_, fun z => ?_⟩
      · replace h1 := h1.1 z
        replace h2 := h2.1 z
        obtain ⟨m, hm, hi⟩ := h1
        exact ⟨m, hm, hi, h2⟩
      · replace h1 := h1.2 z
        replace h2 := h2.2 z
        intro x166 a4_0 a4_1 a4_2
        replace h1 := h1 x166 a4_0 a4_1 a4_2
        replace h2 := h2 x166 a4_0 a4_1 a4_2
        refine ⟨fun z => ?_, fun z => ?_⟩
        · replace h1 := h1.1 z
          replace h2 := h2.1 z
          obtain ⟨m, hm, hi⟩ := h1
          exact ⟨m, hm, hi, h2⟩
        · replace h1 := h1.2 z
          replace h2 := h2.2 z
          intro x171 a5_0
          replace h1 := h1 x171 a5_0
          replace h2 := h2 x171 a5_0
          refine ⟨fun z => ?_, fun z => ?_⟩
          · replace h1 := h1.1 z
            replace h2 := h2.1 z
            refine ⟨fun z => ?_, fun z => ?_⟩
            · replace h1 := h1.1 z
              replace h2 := h2.1 z
              refine ⟨fun z => ?_, fun z => ?_⟩
              · replace h1 := h1.1 z
                replace h2 := h2.1 z
                obtain ⟨m, hm, hi⟩ := h1
                exact ⟨m, hm, hi, h2⟩
              · replace h1 := h1.2 z
                replace h2 := h2.2 z
                obtain ⟨P1, c1, h1⟩ := h1
                refine ⟨P1, c1, ?_⟩
                intro g183 a8_0 a8_1
                replace h1 := h1 g183 a8_0 a8_1
                replace h2 := h2 g183 a8_0
                obtain ⟨P1, c1, h1⟩ := h1
                refine ⟨P1, c1, ?_⟩
                intro g192 a8_0 a8_1 g198 a8_2
                replace h1 := h1 g192 a8_0 a8_1 g198 a8_2
                replace h2 := h2 g192 a8_0 g198 a8_2
                obtain ⟨P1, c1, h1⟩ := h1
                obtain ⟨P2, c2, h2⟩ := h2
                refine ⟨fun g => P1 g ∧ P2 g, cj_2310 c1 c2, ?_⟩
                intro g204 a8_0 a8_1 g210 a8_2
                replace h1 := h1 g204 a8_0 a8_1.1 g210 a8_2
                replace h2 := h2 g204 a8_0 a8_1.2 g210 a8_2
                exact ⟨h1, h2⟩
            · replace h1 := h1.2 z
              replace h2 := h2.2 z
              obtain ⟨P1, c1, h1⟩ := h1
              refine ⟨P1, c1, ?_⟩
              intro g216 a7_0 a7_1
              replace h1 := h1 g216 a7_0 a7_1
              replace h2 := h2 g216 a7_0
              obtain ⟨P1, c1, h1⟩ := h1
              refine ⟨P1, c1, ?_⟩
              intro g225 a7_0 a7_1 g231 a7_2
              replace h1 := h1 g225 a7_0 a7_1 g231 a7_2
              replace h2 := h2 g225 a7_0 g231 a7_2
              obtain ⟨P1, c1, h1⟩ := h1
              obtain ⟨P2, c2, h2⟩ := h2
              refine ⟨fun g => P1 g ∧ P2 g, cj_2310 c1 c2, ?_⟩
              intro g237 a7_0 a7_1 g243 a7_2
              replace h1 := h1 g237 a7_0 a7_1.1 g243 a7_2
              replace h2 := h2 g237 a7_0 a7_1.2 g243 a7_2
              exact ⟨h1, h2⟩
          · replace h1 := h1.2 z
            replace h2 := h2.2 z
            obtain ⟨P1, c1, h1⟩ := h1
            refine ⟨P1, c1, ?_⟩
            intro g249 a6_0 a6_1
            replace h1 := h1 g249 a6_0 a6_1
            replace h2 := h2 g249 a6_0
            obtain ⟨P1, c1, h1⟩ := h1
            refine ⟨P1, c1, ?_⟩
            intro g258 a6_0 a6_1 g264 a6_2
            replace h1 := h1 g258 a6_0 a6_1 g264 a6_2
            replace h2 := h2 g258 a6_0 g264 a6_2
            obtain ⟨P1, c1, h1⟩ := h1
            obtain ⟨P2, c2, h2⟩ := h2
            refine ⟨fun g => P1 g ∧ P2 g, cj_2310 c1 c2, ?_⟩
            intro g270 a6_0 a6_1 g276 a6_2
            replace h1 := h1 g270 a6_0 a6_1.1 g276 a6_2
            replace h2 := h2 g270 a6_0 a6_1.2 g276 a6_2
            exact ⟨h1, h2⟩
    · replace h1 := h1.2 z
      replace h2 := h2.2 z
      obtain ⟨m, hm, hi⟩ := h1
      exact ⟨m, hm, hi, h2⟩
  · intro n g v272_1 v272_2 v272_3 e0 e1 e2 e3 e4 e5 e6 hI
    have h1 := h1_2 n g v272_1 v272_2 v272_3 e0 e1 e2 e3 e4 e5 e6 hI.1
    have h2 := h2_2 g v272_1 v272_2 v272_3 e0 e1 e2 e3 e4 e5 e6 hI.2
    clear h1E h2E hI h1_0 h2_0 h1_1 h2_1 h1_2 h2_2 h1_3 h2_3 h1_4 h2_4
    refine ⟨fun z => ?_, fun z => ?_⟩
    · replace h1 := h1.1 z
      replace h2 := h2.1 z
      intro x278 a3_0 a3_1 a3_2
      replace h1 := h1 x278 a3_0 a3_1 a3_2
      replace h2 := h2 x278 a3_0 a3_1 a3_2
      refine ⟨fun z => ?_, fun z => ?_⟩
      · replace h1 := h1.1 z
        replace h2 := h2.1 z
        refine ⟨fun z => ?_, fun z => ?_⟩
        · replace h1 := h1.1 z
          replace h2 := h2.1 z
          obtain ⟨m, hm, hi⟩ := h1
          exact ⟨m, hm, hi, h2⟩
        · replace h1 := h1.2 z
          replace h2 := h2.2 z
          intro y287 a5_0 x288 a5_1
          replace h1 := h1 y287 a5_0 x288 a5_1
          replace h2 := h2 y287 a5_0 x288 a5_1
          refine ⟨fun z => ?_, fun z => ?_⟩
          · replace h1 := h1.1 z
            replace h2 := h2.1 z
            obtain ⟨m, hm, hi⟩ := h1
            exact ⟨m, hm, hi, h2⟩
          · replace h1 := h1.2 z
            replace h2 := h2.2 z
            intro x294 a6_0 a6_1 a6_2
            replace h1 := h1 x294 a6_0 a6_1 a6_2
            replace h2 := h2 x294 a6_0 a6_1 a6_2
            refine ⟨fun z => ?_, fun z => ?_⟩
            · replace h1 := h1.1 z
              replace h2 := h2.1 z
              intro x296 a7_0 a7_1 a7_2
              replace h1 := h1 x296 a7_0 a7_1 a7_2
              replace h2 := h2 x296 a7_0 a7_1 a7_2
              refine ⟨fun z => ?_, fun z => ?_⟩
              · replace h1 := h1.1 z
                replace h2 := h2.1 z
                exact ⟨h1, h2⟩
              · replace h1 := h1.2 z
                replace h2 := h2.2 z
                intro x301 a8_0
                replace h1 := h1 x301 a8_0
                replace h2 := h2 x301 a8_0
                refine ⟨fun z => ?_, fun z => ?_⟩
                · replace h1 := h1.1 z
                  replace h2 := h2.1 z
                  obtain ⟨P1, c1, h1⟩ := h1
                  refine ⟨P1, c1, ?_⟩
                  intro g309 a9_0 a9_1
                  replace h1 := h1 g309 a9_0 a9_1
                  replace h2 := h2 g309 a9_0
                  obtain ⟨P1, c1, h1⟩ := h1
                  refine ⟨P1, c1, ?_⟩
                  intro g316 a9_0 a9_1 g322 a9_2 g327 a9_3
                  replace h1 := h1 g316 a9_0 a9_1 g322 a9_2 g327 a9_3
                  replace h2 := h2 g316 a9_0 g322 a9_2 g327 a9_3
                  obtain ⟨P1, c1, h1⟩ := h1
                  obtain ⟨P2, c2, h2⟩ := h2
                  refine ⟨fun g => P1 g ∧ P2 g, cj_2310 c1 c2, ?_⟩
                  intro g333 a9_0 a9_1 g339 a9_2
                  replace h1 := h1 g333 a9_0 a9_1.1 g339 a9_2
                  replace h2 := h2 g333 a9_0 a9_1.2 g339 a9_2
                  exact ⟨h1, h2⟩
                · replace h1 := h1.2 z
                  replace h2 := h2.2 z
                  obtain ⟨P1, c1, h1⟩ := h1
                  refine ⟨P1, c1, ?_⟩
                  intro g345 a9_0 a9_1
                  replace h1 := h1 g345 a9_0 a9_1
                  replace h2 := h2 g345 a9_0
                  obtain ⟨P1, c1, h1⟩ := h1
                  refine ⟨P1, c1, ?_⟩
                  intro g352 a9_0 a9_1 g358 a9_2 g363 a9_3
                  replace h1 := h1 g352 a9_0 a9_1 g358 a9_2 g363 a9_3
                  replace h2 := h2 g352 a9_0 g358 a9_2 g363 a9_3
                  obtain ⟨P1, c1, h1⟩ := h1
                  obtain ⟨P2, c2, h2⟩ := h2
                  refine ⟨fun g => P1 g ∧ P2 g, cj_2310 c1 c2, ?_⟩
                  intro g369 a9_0 a9_1 g375 a9_2
                  replace h1 := h1 g369 a9_0 a9_1.1 g375 a9_2
                  replace h2 := h2 g369 a9_0 a9_1.2 g375 a9_2
                  exact ⟨h1, h2⟩
            · replace h1 := h1.2 z
              replace h2 := h2.2 z
              intro x376 a7_0 a7_1 a7_2 x380 a7_3 a7_4 a7_5
              replace h1 := h1 x376 a7_0 a7_1 a7_2 x380 a7_3 a7_4 a7_5
              replace h2 := h2 x376 a7_0 a7_1 a7_2 x380 a7_3 a7_4 a7_5
              refine ⟨fun z => ?_, fun z => ?_⟩
              · replace h1 := h1.1 z
                replace h2 := h2.1 z
                exact ⟨h1, h2⟩
              · replace h1 := h1.2 z
                replace h2 := h2.2 z
                intro g389 a8_0 g394 a8_1
                replace h1 := h1 g389 a8_0 g394 a8_1
                replace h2 := h2 g389 a8_0 g394 a8_1
                exact ⟨h1, h2⟩
      · replace h1 := h1.2 z
        replace h2 := h2.2 z
        intro y399 a4_0 x400 a4_1
        replace h1 := h1 y399 a4_0 x400 a4_1
        replace h2 := h2 y399 a4_0 x400 a4_1
        refine ⟨fun z => ?_, fun z => ?_⟩
        · replace h1 := h1.1 z
          replace h2 := h2.1 z
          intro x403 a5_0
          replace h1 := h1 x403 a5_0
          replace h2 := h2 x403 a5_0
          refine ⟨fun z => ?_, fun z => ?_⟩
          · replace h1 := h1.1 z
            replace h2 := h2.1 z
            obtain ⟨m, hm, hi⟩ := h1
            exact ⟨m, hm, hi, h2⟩
          · replace h1 := h1.2 z
            replace h2 := h2.2 z
            intro x409 a6_0 a6_1 a6_2
            replace h1 := h1 x409 a6_0 a6_1 a6_2
            replace h2 := h2 x409 a6_0 a6_1 a6_2
            refine ⟨fun z => ?_, fun z => ?_⟩
            · replace h1 := h1.1 z
              replace h2 := h2.1 z
              intro x411 a7_0 a7_1 a7_2
              replace h1 := h1 x411 a7_0 a7_1 a7_2
              replace h2 := h2 x411 a7_0 a7_1 a7_2
              refine ⟨fun z => ?_, fun z => ?_⟩
              · replace h1 := h1.1 z
                replace h2 := h2.1 z
                exact ⟨h1, h2⟩
              · replace h1 := h1.2 z
                replace h2 := h2.2 z
                intro x416 a8_0
                replace h1 := h1 x416 a8_0
                replace h2 := h2 x416 a8_0
                refine ⟨fun z => ?_, fun z => ?_⟩
                · replace h1 := h1.1 z
                  replace h2 := h2.1 z
                  obtain ⟨P1, c1, h1⟩ := h1
                  refine ⟨P1, c1, ?_⟩
                  intro g424 a9_0 a9_1
                  replace h1 := h1 g424 a9_0 a9_1
                  replace h2 := h2 g424 a9_0
                  obtain ⟨P1, c1, h1⟩ := h1
                  refine ⟨P1, c1, ?_⟩
                  intro g431 a9_0 a9_1 g437 a9_2 g442 a9_3
                  replace h1 := h1 g431 a9_0 a9_1 g437 a9_2 g442 a9_3
                  replace h2 := h2 g431 a9_0 g437 a9_2 g442 a9_3
                  obtain ⟨P1, c1, h1⟩ := h1
                  obtain ⟨P2, c2, h2⟩ := h2
                  refine ⟨fun g => P1 g ∧ P2 g, cj_2310 c1 c2, ?_⟩
                  intro g448 a9_0 a9_1 g454 a9_2
                  replace h1 := h1 g448 a9_0 a9_1.1 g454 a9_2
                  replace h2 := h2 g448 a9_0 a9_1.2 g454 a9_2
                  exact ⟨h1, h2⟩
                · replace h1 := h1.2 z
                  replace h2 := h2.2 z
                  obtain ⟨P1, c1, h1⟩ := h1
                  refine ⟨P1, c1, ?_⟩
                  intro g460 a9_0 a9_1
                  replace h1 := h1 g460 a9_0 a9_1
                  replace h2 := h2 g460 a9_0
                  obtain ⟨P1, c1, h1⟩ := h1
                  refine ⟨P1, c1, ?_⟩
                  intro g467 a9_0 a9_1 g473 a9_2 g478 a9_3
                  replace h1 := h1 g467 a9_0 a9_1 g473 a9_2 g478 a9_3
                  replace h2 := h2 g467 a9_0 g473 a9_2 g478 a9_3
                  obtain ⟨P1, c1, h1⟩ := h1
                  obtain ⟨P2, c2, h2⟩ := h2
                  refine ⟨fun g => P1 g ∧ P2 g, cj_2310 c1 c2, ?_⟩
                  intro g484 a9_0 a9_1 g490 a9_2
                  replace h1 := h1 g484 a9_0 a9_1.1 g490 a9_2
                  replace h2 := h2 g484 a9_0 a9_1.2 g490 a9_2
                  exact ⟨h1, h2⟩
            · replace h1 := h1.2 z
              replace h2 := h2.2 z
              intro x491 a7_0 a7_1 a7_2 x495 a7_3 a7_4 a7_5
              replace h1 := h1 x491 a7_0 a7_1 a7_2 x495 a7_3 a7_4 a7_5
              replace h2 := h2 x491 a7_0 a7_1 a7_2 x495 a7_3 a7_4 a7_5
              refine ⟨fun z => ?_, fun z => ?_⟩
              · replace h1 := h1.1 z
                replace h2 := h2.1 z
                exact ⟨h1, h2⟩
              · replace h1 := h1.2 z
                replace h2 := h2.2 z
                intro g504 a8_0 g509 a8_1
                replace h1 := h1 g504 a8_0 g509 a8_1
                replace h2 := h2 g504 a8_0 g509 a8_1
                exact ⟨h1, h2⟩
        · replace h1 := h1.2 z
          replace h2 := h2.2 z
          intro x514 a5_0 a5_1 a5_2
          replace h1 := h1 x514 a5_0 a5_1 a5_2
          replace h2 := h2 x514 a5_0 a5_1 a5_2
          refine ⟨fun z => ?_, fun z => ?_⟩
          · replace h1 := h1.1 z
            replace h2 := h2.1 z
            intro x516 a6_0 a6_1 a6_2
            replace h1 := h1 x516 a6_0 a6_1 a6_2
            replace h2 := h2 x516 a6_0 a6_1 a6_2
            refine ⟨fun z => ?_, fun z => ?_⟩
            · replace h1 := h1.1 z
              replace h2 := h2.1 z
              exact ⟨h1, h2⟩
            · replace h1 := h1.2 z
              replace h2 := h2.2 z
              intro x521 a7_0
              replace h1 := h1 x521 a7_0
              replace h2 := h2 x521 a7_0
              refine ⟨fun z => ?_, fun z => ?_⟩
              · replace h1 := h1.1 z
                replace h2 := h2.1 z
                obtain ⟨P1, c1, h1⟩ := h1
                refine ⟨P1, c1, ?_⟩
                intro g529 a8_0 a8_1
                replace h1 := h1 g529 a8_0 a8_1
                replace h2 := h2 g529 a8_0
                obtain ⟨P1, c1, h1⟩ := h1
                refine ⟨P1, c1, ?_⟩
                intro g536 a8_0 a8_1 g542 a8_2 g547 a8_3
                replace h1 := h1 g536 a8_0 a8_1 g542 a8_2 g547 a8_3
                replace h2 := h2 g536 a8_0 g542 a8_2 g547 a8_3
                obtain ⟨P1, c1, h1⟩ := h1
                obtain ⟨P2, c2, h2⟩ := h2
                refine ⟨fun g => P1 g ∧ P2 g, cj_2310 c1 c2, ?_⟩
                intro g553 a8_0 a8_1 g559 a8_2
                replace h1 := h1 g553 a8_0 a8_1.1 g559 a8_2
                replace h2 := h2 g553 a8_0 a8_1.2 g559 a8_2
                exact ⟨h1, h2⟩
              · replace h1 := h1.2 z
                replace h2 := h2.2 z
                obtain ⟨P1, c1, h1⟩ := h1
                refine ⟨P1, c1, ?_⟩
                intro g565 a8_0 a8_1
                replace h1 := h1 g565 a8_0 a8_1
                replace h2 := h2 g565 a8_0
                obtain ⟨P1, c1, h1⟩ := h1
                refine ⟨P1, c1, ?_⟩
                intro g572 a8_0 a8_1 g578 a8_2 g583 a8_3
                replace h1 := h1 g572 a8_0 a8_1 g578 a8_2 g583 a8_3
                replace h2 := h2 g572 a8_0 g578 a8_2 g583 a8_3
                obtain ⟨P1, c1, h1⟩ := h1
                obtain ⟨P2, c2, h2⟩ := h2
                refine ⟨fun g => P1 g ∧ P2 g, cj_2310 c1 c2, ?_⟩
                intro g589 a8_0 a8_1 g595 a8_2
                replace h1 := h1 g589 a8_0 a8_1.1 g595 a8_2
                replace h2 := h2 g589 a8_0 a8_1.2 g595 a8_2
                exact ⟨h1, h2⟩
          · replace h1 := h1.2 z
            replace h2 := h2.2 z
            intro x596 a6_0 a6_1 a6_2 x600 a6_3 a6_4 a6_5
            replace h1 := h1 x596 a6_0 a6_1 a6_2 x600 a6_3 a6_4 a6_5
            replace h2 := h2 x596 a6_0 a6_1 a6_2 x600 a6_3 a6_4 a6_5
            refine ⟨fun z => ?_, fun z => ?_⟩
            · replace h1 := h1.1 z
              replace h2 := h2.1 z
              exact ⟨h1, h2⟩
            · replace h1 := h1.2 z
              replace h2 := h2.2 z
              intro g609 a7_0 g614 a7_1
              replace h1 := h1 g609 a7_0 g614 a7_1
              replace h2 := h2 g609 a7_0 g614 a7_1
              exact ⟨h1, h2⟩
    · replace h1 := h1.2 z
      replace h2 := h2.2 z
      obtain ⟨m, hm, hi⟩ := h1
      exact ⟨m, hm, hi, h2⟩
  · intro n g v387_1 v387_2 v387_3 e0 e1 e2 e3 e4 e5 e6 hI
    have h1 := h1_3 n g v387_1 v387_2 v387_3 e0 e1 e2 e3 e4 e5 e6 hI.1
    have h2 := h2_3 g v387_1 v387_2 v387_3 e0 e1 e2 e3 e4 e5 e6 hI.2
    clear h1E h2E hI h1_0 h2_0 h1_1 h2_1 h1_2 h2_2 h1_3 h2_3 h1_4 h2_4
    refine ⟨fun z => ?_, fun z => ?_⟩
    · replace h1 := h1.1 z
      replace h2 := h2.1 z
      intro x620 a3_0 a3_1 a3_2
      replace h1 := h1 x620 a3_0 a3_1 a3_2
      replace h2 := h2 x620 a3_0 a3_1 a3_2
      refine ⟨fun z => ?_, fun z => ?_⟩
      · replace h1 := h1.1 z
        replace h2 := h2.1 z
        obtain ⟨m, hm, hi⟩ := h1
        exact ⟨m, hm, hi, h2⟩
      · replace h1 := h1.2 z
        replace h2 := h2.2 z
        intro x622 a4_0 a4_1 a4_2 x626 a4_3 a4_4 a4_5
        replace h1 := h1 x622 a4_0 a4_1 a4_2 x626 a4_3 a4_4 a4_5
        replace h2 := h2 x622 a4_0 a4_1 a4_2 x626 a4_3 a4_4 a4_5
        refine ⟨fun z => ?_, fun z => ?_⟩
        · replace h1 := h1.1 z
          replace h2 := h2.1 z
          obtain ⟨m, hm, hi⟩ := h1
          exact ⟨m, hm, hi, h2⟩
        · replace h1 := h1.2 z
          replace h2 := h2.2 z
          intro g635 a5_0 g640 a5_1
          replace h1 := h1 g635 a5_0 g640 a5_1
          replace h2 := h2 g635 a5_0 g640 a5_1
          obtain ⟨m, hm, hi⟩ := h1
          exact ⟨m, hm, hi, h2⟩
    · replace h1 := h1.2 z
      replace h2 := h2.2 z
      obtain ⟨m, hm, hi⟩ := h1
      exact ⟨m, hm, hi, h2⟩
  · intro n g v409_1 v409_2 e0 e1 e2 e3 e4 hI
    have h1 := h1_4 n g v409_1 v409_2 e0 e1 e2 e3 e4 hI.1
    have h2 := h2_4 g v409_1 v409_2 e0 e1 e2 e3 e4 hI.2
    clear h1E h2E hI h1_0 h2_0 h1_1 h2_1 h1_2 h2_2 h1_3 h2_3 h1_4 h2_4
    refine ⟨fun z => ?_, fun z => ?_⟩
    · replace h1 := h1.1 z
      replace h2 := h2.1 z
      intro x642 a3_0 a3_1 a3_2
      replace h1 := h1 x642 a3_0 a3_1 a3_2
      replace h2 := h2 x642 a3_0 a3_1 a3_2
      refine ⟨fun z => ?_, fun z => ?_⟩
      · replace h1 := h1.1 z
        replace h2 := h2.1 z
        exact ⟨h1, h2⟩
      · replace h1 := h1.2 z
        replace h2 := h2.2 z
        obtain ⟨P1, c1, h1⟩ := h1
        refine ⟨P1, c1, ?_⟩
        intro g652 a4_0 a4_1
        replace h1 := h1 g652 a4_0 a4_1
        replace h2 := h2 g652 a4_0
        exact ⟨h1, h2⟩
    · replace h1 := h1.2 z
      replace h2 := h2.2 z
      refine ⟨fun z => ?_, fun z => ?_⟩
      · replace h1 := h1.1 z
        replace h2 := h2.1 z
        refine ⟨fun z => ?_, fun z => ?_⟩
        · replace h1 := h1.1 z
          replace h2 := h2.1 z
          intro x656 a5_0 a5_1 a5_2
          replace h1 := h1 x656 a5_0 a5_1 a5_2
          replace h2 := h2 x656 a5_0 a5_1 a5_2
          refine ⟨fun z => ?_, fun z => ?_⟩
          · replace h1 := h1.1 z
            replace h2 := h2.1 z
            intro x661 a6_0 a6_1 a6_2 x665 a6_3 a6_4 a6_5
            replace h1 := h1 x661 a6_0 a6_1 a6_2 x665 a6_3 a6_4 a6_5
            replace h2 := h2 x661 a6_0 a6_1 a6_2 x665 a6_3 a6_4 a6_5
            refine ⟨fun z => ?_, fun z => ?_⟩
            · replace h1 := h1.1 z
              replace h2 := h2.1 z
              exact ⟨h1, h2⟩
            · replace h1 := h1.2 z
              replace h2 := h2.2 z
              intro g674 a7_0 g679 a7_1
              replace h1 := h1 g674 a7_0 g679 a7_1
              replace h2 := h2 g674 a7_0 g679 a7_1
              exact ⟨h1, h2⟩
          · replace h1 := h1.2 z
            replace h2 := h2.2 z
            intro x681 a6_0
            replace h1 := h1 x681 a6_0
            replace h2 := h2 x681 a6_0
            refine ⟨fun z => ?_, fun z => ?_⟩
            · replace h1 := h1.1 z
              replace h2 := h2.1 z
              intro x686 a7_0 a7_1 a7_2 x690 a7_3 a7_4 a7_5
              replace h1 := h1 x686 a7_0 a7_1 a7_2 x690 a7_3 a7_4 a7_5
              replace h2 := h2 x686 a7_0 a7_1 a7_2 x690 a7_3 a7_4 a7_5
              refine ⟨fun z => ?_, fun z => ?_⟩
              · replace h1 := h1.1 z
                replace h2 := h2.1 z
                exact ⟨h1, h2⟩
              · replace h1 := h1.2 z
                replace h2 := h2.2 z
                intro g699 a8_0 g704 a8_1
                replace h1 := h1 g699 a8_0 g704 a8_1
                replace h2 := h2 g699 a8_0 g704 a8_1
                exact ⟨h1, h2⟩
            · replace h1 := h1.2 z
              replace h2 := h2.2 z
              intro x706 a7_0 a7_1 a7_2
              replace h1 := h1 x706 a7_0 a7_1 a7_2
              replace h2 := h2 x706 a7_0 a7_1 a7_2
              refine ⟨fun z => ?_, fun z => ?_⟩
              · replace h1 := h1.1 z
                replace h2 := h2.1 z
                exact ⟨h1, h2⟩
              · replace h1 := h1.2 z
                replace h2 := h2.2 z
                obtain ⟨P1, c1, h1⟩ := h1
                refine ⟨P1, c1, ?_⟩
                intro g716 a8_0 a8_1 x718 a8_2 a8_3 a8_4 x722 a8_5
                replace h1 := h1 g716 a8_0 a8_1 x718 a8_2 a8_3 a8_4 x722 a8_5
                replace h2 := h2 g716 a8_0 x718 a8_2 a8_3 a8_4 x722 a8_5
                refine ⟨h1.1, ?_⟩
                replace h2 := h2 h1.1
                replace h1 := h1.2
                intro g729 a8_0 x730 a8_1 a8_2 a8_3 x734 a8_4
                replace h1 := h1 g729 a8_0 x730 a8_1 a8_2 a8_3 x734 a8_4
                replace h2 := h2 g729 a8_0 x730 a8_1 a8_2 a8_3 x734 a8_4
                refine ⟨h1.1, ?_⟩
                replace h2 := h2 h1.1
                replace h1 := h1.2
                intro g741 a8_0
                replace h1 := h1 g741 a8_0
                replace h2 := h2 g741 a8_0
                refine ⟨fun z => ?_, fun z => ?_⟩
                · replace h1 := h1.1 z
                  replace h2 := h2.1 z
                  obtain ⟨P1, c1, h1⟩ := h1
                  obtain ⟨P2, c2, h2⟩ := h2
                  refine ⟨fun g => P1 g ∧ P2 g, cj_2310 c1 c2, ?_⟩
                  intro g748 a9_0 a9_1
                  replace h1 := h1 g748 a9_0 a9_1.1
                  replace h2 := h2 g748 a9_0 a9_1.2
                  exact ⟨h1, h2⟩
                · replace h1 := h1.2 z
                  replace h2 := h2.2 z
                  intro x753 a9_0 a9_1 a9_2
                  replace h1 := h1 x753 a9_0 a9_1 a9_2
                  replace h2 := h2 x753 a9_0 a9_1 a9_2
                  obtain ⟨P1, c1, h1⟩ := h1
                  refine ⟨P1, c1, ?_⟩
                  intro g759 a9_0 a9_1
                  replace h1 := h1 g759 a9_0 a9_1
                  replace h2 := h2 g759 a9_0
                  obtain ⟨P1, c1, h1⟩ := h1
                  obtain ⟨P2, c2, h2⟩ := h2
                  refine ⟨fun g => P1 g ∧ P2 g, cj_2310 c1 c2, ?_⟩
                  intro g766 a9_0 a9_1
                  replace h1 := h1 g766 a9_0 a9_1.1
                  replace h2 := h2 g766 a9_0 a9_1.2
                  exact ⟨h1, h2⟩
        · replace h1 := h1.2 z
          replace h2 := h2.2 z
          intro x768 a5_0 a5_1 a5_2
          replace h1 := h1 x768 a5_0 a5_1 a5_2
          replace h2 := h2 x768 a5_0 a5_1 a5_2
          refine ⟨fun z => ?_, fun z => ?_⟩
          · replace h1 := h1.1 z
            replace h2 := h2.1 z
            intro x773 a6_0 a6_1 a6_2 x777 a6_3 a6_4 a6_5
            replace h1 := h1 x773 a6_0 a6_1 a6_2 x777 a6_3 a6_4 a6_5
            replace h2 := h2 x773 a6_0 a6_1 a6_2 x777 a6_3 a6_4 a6_5
            refine ⟨fun z => ?_, fun z => ?_⟩
            · replace h1 := h1.1 z
              replace h2 := h2.1 z
              exact ⟨h1, h2⟩
            · replace h1 := h1.2 z
              replace h2 := h2.2 z
              intro g786 a7_0 g791 a7_1
              replace h1 := h1 g786 a7_0 g791 a7_1
              replace h2 := h2 g786 a7_0 g791 a7_1
              exact ⟨h1, h2⟩
          · replace h1 := h1.2 z
            replace h2 := h2.2 z
            intro x793 a6_0
            replace h1 := h1 x793 a6_0
            replace h2 := h2 x793 a6_0
            refine ⟨fun z => ?_, fun z => ?_⟩
            · replace h1 := h1.1 z
              replace h2 := h2.1 z
              intro x798 a7_0 a7_1 a7_2 x802 a7_3 a7_4 a7_5
              replace h1 := h1 x798 a7_0 a7_1 a7_2 x802 a7_3 a7_4 a7_5
              replace h2 := h2 x798 a7_0 a7_1 a7_2 x802 a7_3 a7_4 a7_5
              refine ⟨fun z => ?_, fun z => ?_⟩
              · replace h1 := h1.1 z
                replace h2 := h2.1 z
                exact ⟨h1, h2⟩
              · replace h1 := h1.2 z
                replace h2 := h2.2 z
                intro g811 a8_0 g816 a8_1
                replace h1 := h1 g811 a8_0 g816 a8_1
                replace h2 := h2 g811 a8_0 g816 a8_1
                exact ⟨h1, h2⟩
            · replace h1 := h1.2 z
              replace h2 := h2.2 z
              intro x818 a7_0 a7_1 a7_2
              replace h1 := h1 x818 a7_0 a7_1 a7_2
              replace h2 := h2 x818 a7_0 a7_1 a7_2
              refine ⟨fun z => ?_, fun z => ?_⟩
              · replace h1 := h1.1 z
                replace h2 := h2.1 z
                exact ⟨h1, h2⟩
              · replace h1 := h1.2 z
                replace h2 := h2.2 z
                obtain ⟨P1, c1, h1⟩ := h1
                refine ⟨P1, c1, ?_⟩
                intro g828 a8_0 a8_1 x830 a8_2 a8_3 a8_4 x834 a8_5
                replace h1 := h1 g828 a8_0 a8_1 x830 a8_2 a8_3 a8_4 x834 a8_5
                replace h2 := h2 g828 a8_0 x830 a8_2 a8_3 a8_4 x834 a8_5
                refine ⟨h1.1, ?_⟩
                replace h2 := h2 h1.1
                replace h1 := h1.2
                intro g841 a8_0 x842 a8_1 a8_2 a8_3 x846 a8_4
                replace h1 := h1 g841 a8_0 x842 a8_1 a8_2 a8_3 x846 a8_4
                replace h2 := h2 g841 a8_0 x842 a8_1 a8_2 a8_3 x846 a8_4
                refine ⟨h1.1, ?_⟩
                replace h2 := h2 h1.1
                replace h1 := h1.2
                intro g853 a8_0 x855 a8_1
                replace h1 := h1 g853 a8_0 x855 a8_1
                replace h2 := h2 g853 a8_0 x855 a8_1
                refine ⟨h1.1, ?_⟩
                replace h2 := h2 h1.1
                replace h1 := h1.2
                intro g862 a8_0
                replace h1 := h1 g862 a8_0
                replace h2 := h2 g862 a8_0
                obtain ⟨P1, c1, h1⟩ := h1
                obtain ⟨P2, c2, h2⟩ := h2
                refine ⟨fun g => P1 g ∧ P2 g, cj_2310 c1 c2, ?_⟩
                intro g868 a8_0 a8_1
                replace h1 := h1 g868 a8_0 a8_1.1
                replace h2 := h2 g868 a8_0 a8_1.2
                exact ⟨h1, h2⟩
      · replace h1 := h1.2 z
        replace h2 := h2.2 z
        intro x870 a4_0 a4_1 a4_2
        replace h1 := h1 x870 a4_0 a4_1 a4_2
        replace h2 := h2 x870 a4_0 a4_1 a4_2
        refine ⟨fun z => ?_, fun z => ?_⟩
        · replace h1 := h1.1 z
          replace h2 := h2.1 z
          intro x875 a5_0 a5_1 a5_2 x879 a5_3 a5_4 a5_5
          replace h1 := h1 x875 a5_0 a5_1 a5_2 x879 a5_3 a5_4 a5_5
          replace h2 := h2 x875 a5_0 a5_1 a5_2 x879 a5_3 a5_4 a5_5
          refine ⟨fun z => ?_, fun z => ?_⟩
          · replace h1 := h1.1 z
            replace h2 := h2.1 z
            exact ⟨h1, h2⟩
          · replace h1 := h1.2 z
            replace h2 := h2.2 z
            intro g888 a6_0 g893 a6_1
            replace h1 := h1 g888 a6_0 g893 a6_1
            replace h2 := h2 g888 a6_0 g893 a6_1
            exact ⟨h1, h2⟩
        · replace h1 := h1.2 z
          replace h2 := h2.2 z
          intro x895 a5_0
          replace h1 := h1 x895 a5_0
          replace h2 := h2 x895 a5_0
          refine ⟨fun z => ?_, fun z => ?_⟩
          · replace h1 := h1.1 z
            replace h2 := h2.1 z
            intro x900 a6_0 a6_1 a6_2 x904 a6_3 a6_4 a6_5
            replace h1 := h1 x900 a6_0 a6_1 a6_2 x904 a6_3 a6_4 a6_5
            replace h2 := h2 x900 a6_0 a6_1 a6_2 x904 a6_3 a6_4 a6_5
            refine ⟨fun z => ?_, fun z => ?_⟩
            · replace h1 := h1.1 z
              replace h2 := h2.1 z
              exact ⟨h1, h2⟩
            · replace h1 := h1.2 z
              replace h2 := h2.2 z
              intro g913 a7_0 g918 a7_1
              replace h1 := h1 g913 a7_0 g918 a7_1
              replace h2 := h2 g913 a7_0 g918 a7_1
              exact ⟨h1, h2⟩
          · replace h1 := h1.2 z
            replace h2 := h2.2 z
            intro x920 a6_0 a6_1 a6_2
            replace h1 := h1 x920 a6_0 a6_1 a6_2
            replace h2 := h2 x920 a6_0 a6_1 a6_2
            refine ⟨fun z => ?_, fun z => ?_⟩
            · replace h1 := h1.1 z
              replace h2 := h2.1 z
              exact ⟨h1, h2⟩
            · replace h1 := h1.2 z
              replace h2 := h2.2 z
              obtain ⟨P1, c1, h1⟩ := h1
              refine ⟨P1, c1, ?_⟩
              intro g930 a7_0 a7_1 g936 a7_2
              replace h1 := h1 g930 a7_0 a7_1 g936 a7_2
              replace h2 := h2 g930 a7_0 g936 a7_2
              obtain ⟨P1, c1, h1⟩ := h1
              obtain ⟨P2, c2, h2⟩ := h2
              refine ⟨fun g => P1 g ∧ P2 g, cj_2310 c1 c2, ?_⟩
              intro g942 a7_0 a7_1 g948 a7_2
              replace h1 := h1 g942 a7_0 a7_1.1 g948 a7_2
              replace h2 := h2 g942 a7_0 a7_1.2 g948 a7_2
              exact ⟨h1, h2⟩
