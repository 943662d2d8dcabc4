/-! partial conditions of the reference (wip/safe/vcp.py) -/
set_option maxRecDepth 100000 in
def p_2310 (s0 : zF) (Q : zF → Prop) : Prop :=
  ∃ (I5 : zF → Int → Prop) (I41 : zF → Int → Prop) (I85 : zF → Int → Int → Int → Prop) (I131 : zF → Int → Int → Int → Prop) (I200 : zF → Int → Int → Int → Int → Int → Prop) (I252 : zF → Int → Int → Int → Int → Int → Prop) (I282 : zF → Int → Int → Int → Int → Int → Prop) (I314 : zF → Int → Int → Int → Int → Int → Prop) (I323 : zF → Int → Prop),
    (∀ x345 : Int, x345 = s0 (386) 5 → 0 ≤ x345 → x345 ≤ 1600 → I5 s0 x345) ∧
    (∀ (g : zF) (v5_1 : Int), zFr [(386, 387, 3), (386, 387, 4), (386, 387, 5), (386, 387, 6), (386, 387, 7), (386, 387, 8), (386, 387, 9)] s0 g → 0 ≤ v5_1 → v5_1 ≤ 1600 → I5 g v5_1 → ∀ x1 : Int, x1 = g (386) 2 → 0 ≤ x1 → x1 ≤ 1600 → (v5_1 < x1 → ∀ x9 : Int, x9 = g (387) v5_1.toNat → 0 ≤ x9 → x9 ≤ 255 → (¬ x9 = 32 → (¬ x9 = 10 → I41 g v5_1) ∧ (x9 = 10 → ∀ x15 : Int, x15 = v5_1 + 1 → I5 g x15)) ∧ (x9 = 32 → ∀ x17 : Int, x17 = v5_1 + 1 → I5 g x17)) ∧ (x1 ≤ v5_1 → I41 g v5_1)) ∧
    (∀ (g : zF) (v41_1 : Int), zFr [(386, 387, 3), (386, 387, 4), (386, 387, 5), (386, 387, 6), (386, 387, 7), (386, 387, 8), (386, 387, 9)] s0 g → 0 ≤ v41_1 → v41_1 ≤ 1600 → I41 g v41_1 → ∀ g23 : zF, g23 = zup g (386) 4 v41_1 → ∀ g28 : zF, g28 = zup g23 (386) 5 v41_1 → ∀ g33 : zF, g33 = zup g28 (386) 3 0 → ∀ x34 : Int, x34 = g33 (386) 2 → 0 ≤ x34 → x34 ≤ 1600 → (v41_1 < x34 → ∀ x42 : Int, x42 = g33 (387) v41_1.toNat → 0 ≤ x42 → x42 ≤ 255 → (x42 < 97 → (x42 < 48 → I85 g33 v41_1 0 0) ∧ (48 ≤ x42 → (57 < x42 → I85 g33 v41_1 0 0) ∧ (x42 ≤ 57 → I85 g33 v41_1 0 1))) ∧ (97 ≤ x42 → (122 < x42 → I85 g33 v41_1 0 0) ∧ (x42 ≤ 122 → I85 g33 v41_1 1 0))) ∧ (x34 ≤ v41_1 → Q g33)) ∧
    (∀ (g : zF) (v85_1 : Int) (v85_2 : Int) (v85_3 : Int), zFr [(386, 387, 3), (386, 387, 4), (386, 387, 5), (386, 387, 6), (386, 387, 7), (386, 387, 8), (386, 387, 9)] s0 g → 0 ≤ v85_1 → v85_1 ≤ 1599 → 0 ≤ v85_2 → v85_2 ≤ 1 → 0 ≤ v85_3 → v85_3 ≤ 1 → I85 g v85_1 v85_2 v85_3 → (¬ v85_2 = 0 → (0 < v85_1 → ∀ x58 : Int, x58 = v85_1 - 1 → ∀ x63 : Int, x63 = g (387) x58.toNat → 0 ≤ x63 → x63 ≤ 255 → (x63 < 97 → ∀ x65 : Int, x65 = v85_1 - 1 → ∀ x70 : Int, x70 = g (387) x65.toNat → 0 ≤ x70 → x70 ≤ 255 → (x70 < 48 → I131 g v85_1 v85_2 v85_3) ∧ (48 ≤ x70 → (57 < x70 → I131 g v85_1 v85_2 v85_3) ∧ (x70 ≤ 57 → ∀ x73 : Int, x73 = g (386) 8 → 0 ≤ x73 → x73 ≤ 5 → (0 < x73 → I131 g v85_1 v85_2 v85_3) ∧ (x73 ≤ 0 → ∀ g82 : zF, g82 = zup g (386) 8 1 → ∀ g87 : zF, g87 = zup g82 (386) 9 v85_1 → I131 g87 v85_1 v85_2 v85_3)))) ∧ (97 ≤ x63 → (122 < x63 → ∀ x89 : Int, x89 = v85_1 - 1 → ∀ x94 : Int, x94 = g (387) x89.toNat → 0 ≤ x94 → x94 ≤ 255 → (x94 < 48 → I131 g v85_1 v85_2 v85_3) ∧ (48 ≤ x94 → (57 < x94 → I131 g v85_1 v85_2 v85_3) ∧ (x94 ≤ 57 → ∀ x97 : Int, x97 = g (386) 8 → 0 ≤ x97 → x97 ≤ 5 → (0 < x97 → I131 g v85_1 v85_2 v85_3) ∧ (x97 ≤ 0 → ∀ g106 : zF, g106 = zup g (386) 8 1 → ∀ g111 : zF, g111 = zup g106 (386) 9 v85_1 → I131 g111 v85_1 v85_2 v85_3)))) ∧ (x63 ≤ 122 → ∀ x112 : Int, x112 = g (386) 8 → 0 ≤ x112 → x112 ≤ 5 → (0 < x112 → I131 g v85_1 v85_2 v85_3) ∧ (x112 ≤ 0 → ∀ g121 : zF, g121 = zup g (386) 8 1 → ∀ g126 : zF, g126 = zup g121 (386) 9 v85_1 → I131 g126 v85_1 v85_2 v85_3)))) ∧ (v85_1 ≤ 0 → I131 g v85_1 v85_2 v85_3)) ∧ (v85_2 = 0 → (¬ v85_3 = 0 → (0 < v85_1 → ∀ x129 : Int, x129 = v85_1 - 1 → ∀ x134 : Int, x134 = g (387) x129.toNat → 0 ≤ x134 → x134 ≤ 255 → (x134 < 97 → ∀ x136 : Int, x136 = v85_1 - 1 → ∀ x141 : Int, x141 = g (387) x136.toNat → 0 ≤ x141 → x141 ≤ 255 → (x141 < 48 → I131 g v85_1 v85_2 v85_3) ∧ (48 ≤ x141 → (57 < x141 → I131 g v85_1 v85_2 v85_3) ∧ (x141 ≤ 57 → ∀ x144 : Int, x144 = g (386) 8 → 0 ≤ x144 → x144 ≤ 5 → (0 < x144 → I131 g v85_1 v85_2 v85_3) ∧ (x144 ≤ 0 → ∀ g153 : zF, g153 = zup g (386) 8 1 → ∀ g158 : zF, g158 = zup g153 (386) 9 v85_1 → I131 g158 v85_1 v85_2 v85_3)))) ∧ (97 ≤ x134 → (122 < x134 → ∀ x160 : Int, x160 = v85_1 - 1 → ∀ x165 : Int, x165 = g (387) x160.toNat → 0 ≤ x165 → x165 ≤ 255 → (x165 < 48 → I131 g v85_1 v85_2 v85_3) ∧ (48 ≤ x165 → (57 < x165 → I131 g v85_1 v85_2 v85_3) ∧ (x165 ≤ 57 → ∀ x168 : Int, x168 = g (386) 8 → 0 ≤ x168 → x168 ≤ 5 → (0 < x168 → I131 g v85_1 v85_2 v85_3) ∧ (x168 ≤ 0 → ∀ g177 : zF, g177 = zup g (386) 8 1 → ∀ g182 : zF, g182 = zup g177 (386) 9 v85_1 → I131 g182 v85_1 v85_2 v85_3)))) ∧ (x134 ≤ 122 → ∀ x183 : Int, x183 = g (386) 8 → 0 ≤ x183 → x183 ≤ 5 → (0 < x183 → I131 g v85_1 v85_2 v85_3) ∧ (x183 ≤ 0 → ∀ g192 : zF, g192 = zup g (386) 8 1 → ∀ g197 : zF, g197 = zup g192 (386) 9 v85_1 → I131 g197 v85_1 v85_2 v85_3)))) ∧ (v85_1 ≤ 0 → I131 g v85_1 v85_2 v85_3)) ∧ (v85_3 = 0 → I131 g v85_1 v85_2 v85_3))) ∧
    (∀ (g : zF) (v131_1 : Int) (v131_2 : Int) (v131_3 : Int), zFr [(386, 387, 3), (386, 387, 4), (386, 387, 5), (386, 387, 6), (386, 387, 7), (386, 387, 8), (386, 387, 9)] s0 g → 0 ≤ v131_1 → v131_1 ≤ 1599 → 0 ≤ v131_2 → v131_2 ≤ 1 → 0 ≤ v131_3 → v131_3 ≤ 1 → I131 g v131_1 v131_2 v131_3 → ∀ g202 : zF, g202 = zup g (386) 6 0 → ∀ g207 : zF, g207 = zup g202 (386) 7 0 → ∀ g212 : zF, g212 = zup g207 (386) 3 3 → ∀ x213 : Int, x213 = v131_1 + 1 → ∀ g219 : zF, g219 = zup g212 (386) 5 x213 → (¬ v131_2 = 0 → ∀ g225 : zF, g225 = zup g219 (386) 3 1 → I200 g225 v131_1 v131_2 v131_3 6 0) ∧ (v131_2 = 0 → (¬ v131_3 = 0 → ∀ g231 : zF, g231 = zup g219 (386) 3 2 → I200 g231 v131_1 v131_2 v131_3 4 0) ∧ (v131_3 = 0 → ∀ x235 : Int, x235 = g219 (387) v131_1.toNat → 0 ≤ x235 → x235 ≤ 255 → ∀ g240 : zF, g240 = zup g219 (386) 6 x235 → Q g240))) ∧
    (∀ (g : zF) (v200_1 : Int) (v200_2 : Int) (v200_3 : Int) (v200_4 : Int) (v200_5 : Int), zFr [(386, 387, 3), (386, 387, 4), (386, 387, 5), (386, 387, 6), (386, 387, 7), (386, 387, 8), (386, 387, 9)] s0 g → 0 ≤ v200_1 → v200_1 ≤ 1600 → 0 ≤ v200_2 → v200_2 ≤ 1 → 0 ≤ v200_3 → v200_3 ≤ 1 → 4 ≤ v200_4 → v200_4 ≤ 6 → 0 ≤ v200_5 → I200 g v200_1 v200_2 v200_3 v200_4 v200_5 → ∀ x241 : Int, x241 = g (386) 2 → 0 ≤ x241 → x241 ≤ 1600 → (v200_1 < x241 → (¬ v200_2 = 0 → ∀ x250 : Int, x250 = g (387) v200_1.toNat → 0 ≤ x250 → x250 ≤ 255 → (x250 < 97 → I323 g v200_1) ∧ (97 ≤ x250 → (122 < x250 → I323 g v200_1) ∧ (x250 ≤ 122 → (¬ v200_5 = v200_4 → I252 g v200_1 v200_2 v200_3 v200_4 v200_5) ∧ (v200_5 = v200_4 → ∀ x254 : Int, x254 = g (386) 8 → 0 ≤ x254 → x254 ≤ 5 → (0 < x254 → I252 g v200_1 v200_2 v200_3 v200_4 v200_5) ∧ (x254 ≤ 0 → ∀ g263 : zF, g263 = zup g (386) 8 1 → ∀ g268 : zF, g268 = zup g263 (386) 9 v200_1 → I252 g268 v200_1 v200_2 v200_3 v200_4 v200_5))))) ∧ (v200_2 = 0 → ∀ x272 : Int, x272 = g (387) v200_1.toNat → 0 ≤ x272 → x272 ≤ 255 → (x272 < 48 → I323 g v200_1) ∧ (48 ≤ x272 → (57 < x272 → I323 g v200_1) ∧ (x272 ≤ 57 → (¬ v200_5 = v200_4 → I252 g v200_1 v200_2 v200_3 v200_4 v200_5) ∧ (v200_5 = v200_4 → ∀ x276 : Int, x276 = g (386) 8 → 0 ≤ x276 → x276 ≤ 5 → (0 < x276 → I252 g v200_1 v200_2 v200_3 v200_4 v200_5) ∧ (x276 ≤ 0 → ∀ g285 : zF, g285 = zup g (386) 8 1 → ∀ g290 : zF, g290 = zup g285 (386) 9 v200_1 → I252 g290 v200_1 v200_2 v200_3 v200_4 v200_5)))))) ∧ (x241 ≤ v200_1 → I323 g v200_1)) ∧
    (∀ (g : zF) (v252_1 : Int) (v252_2 : Int) (v252_3 : Int) (v252_4 : Int) (v252_5 : Int), zFr [(386, 387, 3), (386, 387, 4), (386, 387, 5), (386, 387, 6), (386, 387, 7), (386, 387, 8), (386, 387, 9)] s0 g → 0 ≤ v252_1 → v252_1 ≤ 1599 → 0 ≤ v252_2 → v252_2 ≤ 1 → 0 ≤ v252_3 → v252_3 ≤ 1 → 4 ≤ v252_4 → v252_4 ≤ 6 → 0 ≤ v252_5 → I252 g v252_1 v252_2 v252_3 v252_4 v252_5 → (v252_5 < v252_4 → (¬ v252_2 = 0 → ∀ y296 : Int, y296 = g (386) 7 → (0 ≤ y296 ∧ y296 ≤ 36028797018963967) → ∀ y298 : Int, y298 = 256 * y296 → ∀ x303 : Int, x303 = g (387) v252_1.toNat → 0 ≤ x303 → x303 ≤ 255 → ∀ y304 : Int, y304 = x303 → (0 ≤ y298 ∧ y298 % 256 = 0 ∧ 0 ≤ y304 ∧ y304 < 256) → ∀ y307 : Int, y307 = y298 + y304 → ∀ g313 : zF, g313 = zup g (386) 7 y307 → I282 g313 v252_1 v252_2 v252_3 v252_4 v252_5) ∧ (v252_2 = 0 → I282 g v252_1 v252_2 v252_3 v252_4 v252_5)) ∧ (v252_4 ≤ v252_5 → I282 g v252_1 v252_2 v252_3 v252_4 v252_5)) ∧
    (∀ (g : zF) (v282_1 : Int) (v282_2 : Int) (v282_3 : Int) (v282_4 : Int) (v282_5 : Int), zFr [(386, 387, 3), (386, 387, 4), (386, 387, 5), (386, 387, 6), (386, 387, 7), (386, 387, 8), (386, 387, 9)] s0 g → 0 ≤ v282_1 → v282_1 ≤ 1599 → 0 ≤ v282_2 → v282_2 ≤ 1 → 0 ≤ v282_3 → v282_3 ≤ 1 → 4 ≤ v282_4 → v282_4 ≤ 6 → 0 ≤ v282_5 → I282 g v282_1 v282_2 v282_3 v282_4 v282_5 → (v282_5 < v282_4 → (¬ v282_3 = 0 → ∀ x316 : Int, x316 = g (386) 6 → ∀ x321 : Int, x321 = zxmul 10 x316 → ∀ x325 : Int, x325 = g (387) v282_1.toNat → 0 ≤ x325 → x325 ≤ 255 → ∀ x327 : Int, x327 = zxadd x321 x325 → ∀ x329 : Int, x329 = zxsub x327 48 → ∀ g334 : zF, g334 = zup g (386) 6 x329 → I314 g334 v282_1 v282_2 v282_3 v282_4 v282_5) ∧ (v282_3 = 0 → I314 g v282_1 v282_2 v282_3 v282_4 v282_5)) ∧ (v282_4 ≤ v282_5 → I314 g v282_1 v282_2 v282_3 v282_4 v282_5)) ∧
    (∀ (g : zF) (v314_1 : Int) (v314_2 : Int) (v314_3 : Int) (v314_4 : Int) (v314_5 : Int), zFr [(386, 387, 3), (386, 387, 4), (386, 387, 5), (386, 387, 6), (386, 387, 7), (386, 387, 8), (386, 387, 9)] s0 g → 0 ≤ v314_1 → v314_1 ≤ 1599 → 0 ≤ v314_2 → v314_2 ≤ 1 → 0 ≤ v314_3 → v314_3 ≤ 1 → 4 ≤ v314_4 → v314_4 ≤ 6 → 0 ≤ v314_5 → I314 g v314_1 v314_2 v314_3 v314_4 v314_5 → (v314_5 ≤ 2147483646) → ∀ x336 : Int, x336 = v314_5 + 1 → ∀ x338 : Int, x338 = v314_1 + 1 → I200 g x338 v314_2 v314_3 v314_4 x336) ∧
    (∀ (g : zF) (v323_1 : Int), zFr [(386, 387, 3), (386, 387, 4), (386, 387, 5), (386, 387, 6), (386, 387, 7), (386, 387, 8), (386, 387, 9)] s0 g → 0 ≤ v323_1 → v323_1 ≤ 1600 → I323 g v323_1 → ∀ g344 : zF, g344 = zup g (386) 5 v323_1 → Q g344)
set_option maxRecDepth 100000 in
theorem cj_2310 {s0 : zF} {Q1 Q2 : zF → Prop} (h1 : b_2310 s0 Q1) (h2 : p_2310 s0 Q2) : b_2310 s0 (fun g => Q1 g ∧ Q2 g) := by
  obtain ⟨I5, I41, I85, I131, I200, I252, I282, I314, I323, h1E, h1_0, h1_1, h1_2, h1_3, h1_4, h1_5, h1_6, h1_7, h1_8⟩ := h1
  obtain ⟨J5, J41, J85, J131, J200, J252, J282, J314, J323, h2E, h2_0, h2_1, h2_2, h2_3, h2_4, h2_5, h2_6, h2_7, h2_8⟩ := h2
  refine ⟨fun n g y0 => I5 n g y0 ∧ J5 g y0, fun n g y0 => I41 n g y0 ∧ J41 g y0, fun n g y0 y1 y2 => I85 n g y0 y1 y2 ∧ J85 g y0 y1 y2, fun n g y0 y1 y2 => I131 n g y0 y1 y2 ∧ J131 g y0 y1 y2, fun n g y0 y1 y2 y3 y4 => I200 n g y0 y1 y2 y3 y4 ∧ J200 g y0 y1 y2 y3 y4, fun n g y0 y1 y2 y3 y4 => I252 n g y0 y1 y2 y3 y4 ∧ J252 g y0 y1 y2 y3 y4, fun n g y0 y1 y2 y3 y4 => I282 n g y0 y1 y2 y3 y4 ∧ J282 g y0 y1 y2 y3 y4, fun n g y0 y1 y2 y3 y4 => I314 n g y0 y1 y2 y3 y4 ∧ J314 g y0 y1 y2 y3 y4, fun n g y0 => I323 n g y0 ∧ J323 g y0, ?_, ?_, ?_, ?_, ?_, ?_, ?_, ?_, ?_, ?_⟩
  · have h1 := h1E
    have h2 := h2E
    clear h1E h2E h1_0 h2_0 h1_1 h2_1 h1_2 h2_2 h1_3 h2_3 h1_4 h2_4 h1_5 h2_5 h1_6 h2_6 h1_7 h2_7 h1_8 h2_8
    intro x345 a2_0 a2_1 a2_2
    replace h1 := h1 x345 a2_0 a2_1 a2_2
    replace h2 := h2 x345 a2_0 a2_1 a2_2
    obtain ⟨m, hi⟩ := h1
    exact ⟨m, hi, h2⟩
  · intro n g v5_1 e0 e1 e2 hI
    have h1 := h1_0 n g v5_1 e0 e1 e2 hI.1
    have h2 := h2_0 g v5_1 e0 e1 e2 hI.2
    clear h1E h2E hI h1_0 h2_0 h1_1 h2_1 h1_2 h2_2 h1_3 h2_3 h1_4 h2_4 h1_5 h2_5 h1_6 h2_6 h1_7 h2_7 h1_8 h2_8
    intro x1 a2_0 a2_1 a2_2
    replace h1 := h1 x1 a2_0 a2_1 a2_2
    replace h2 := h2 x1 a2_0 a2_1 a2_2
    refine ⟨fun z => ?_, fun z => ?_⟩
    · replace h1 := h1.1 z
      replace h2 := h2.1 z
      intro x9 a3_0 a3_1 a3_2
      replace h1 := h1 x9 a3_0 a3_1 a3_2
      replace h2 := h2 x9 a3_0 a3_1 a3_2
      refine ⟨fun z => ?_, fun z => ?_⟩
      · replace h1 := h1.1 z
        replace h2 := h2.1 z
        refine ⟨fun z => ?_, fun z => ?_⟩
        · replace h1 := h1.1 z
          replace h2 := h2.1 z
          obtain ⟨m, hm, hi⟩ := h1
          exact ⟨m, hm, hi, h2⟩
        · replace h1 := h1.2 z
          replace h2 := h2.2 z
          intro x15 a5_0
          replace h1 := h1 x15 a5_0
          replace h2 := h2 x15 a5_0
          obtain ⟨m, hm, hi⟩ := h1
          exact ⟨m, hm, hi, h2⟩
      · replace h1 := h1.2 z
        replace h2 := h2.2 z
        intro x17 a4_0
        replace h1 := h1 x17 a4_0
        replace h2 := h2 x17 a4_0
        obtain ⟨m, hm, hi⟩ := h1
        exact ⟨m, hm, hi, h2⟩
    · replace h1 := h1.2 z
      replace h2 := h2.2 z
      obtain ⟨m, hm, hi⟩ := h1
      exact ⟨m, hm, hi, h2⟩
  · intro n g v41_1 e0 e1 e2 hI
    have h1 := h1_1 n g v41_1 e0 e1 e2 hI.1
    have h2 := h2_1 g v41_1 e0 e1 e2 hI.2
    clear h1E h2E hI h1_0 h2_0 h1_1 h2_1 h1_2 h2_2 h1_3 h2_3 h1_4 h2_4 h1_5 h2_5 h1_6 h2_6 h1_7 h2_7 h1_8 h2_8
    intro g23 a2_0 g28 a2_1 g33 a2_2 x34 a2_3 a2_4 a2_5
    replace h1 := h1 g23 a2_0 g28 a2_1 g33 a2_2 x34 a2_3 a2_4 a2_5
    replace h2 := h2 g23 a2_0 g28 a2_1 g33 a2_2 x34 a2_3 a2_4 a2_5
    refine ⟨fun z => ?_, fun z => ?_⟩
    · replace h1 := h1.1 z
      replace h2 := h2.1 z
      intro x42 a3_0 a3_1 a3_2
      replace h1 := h1 x42 a3_0 a3_1 a3_2
      replace h2 := h2 x42 a3_0 a3_1 a3_2
      refine ⟨fun z => ?_, fun z => ?_⟩
      · replace h1 := h1.1 z
        replace h2 := h2.1 z
        refine ⟨fun z => ?_, fun z => ?_⟩
        · replace h1 := h1.1 z
          replace h2 := h2.1 z
          obtain ⟨m, hm, hi⟩ := h1
          exact ⟨m, hm, hi, h2⟩
        · replace h1 := h1.2 z
          replace h2 := h2.2 z
          refine ⟨fun z => ?_, fun z => ?_⟩
          · replace h1 := h1.1 z
            replace h2 := h2.1 z
            obtain ⟨m, hm, hi⟩ := h1
            exact ⟨m, hm, hi, h2⟩
          · replace h1 := h1.2 z
            replace h2 := h2.2 z
            obtain ⟨m, hm, hi⟩ := h1
            exact ⟨m, hm, hi, h2⟩
      · replace h1 := h1.2 z
        replace h2 := h2.2 z
        refine ⟨fun z => ?_, fun z => ?_⟩
        · replace h1 := h1.1 z
          replace h2 := h2.1 z
          obtain ⟨m, hm, hi⟩ := h1
          exact ⟨m, hm, hi, h2⟩
        · replace h1 := h1.2 z
          replace h2 := h2.2 z
          obtain ⟨m, hm, hi⟩ := h1
          exact ⟨m, hm, hi, h2⟩
    · replace h1 := h1.2 z
      replace h2 := h2.2 z
      exact ⟨h1, h2⟩
  · intro n g v85_1 v85_2 v85_3 e0 e1 e2 e3 e4 e5 e6 hI
    have h1 := h1_2 n g v85_1 v85_2 v85_3 e0 e1 e2 e3 e4 e5 e6 hI.1
    have h2 := h2_2 g v85_1 v85_2 v85_3 e0 e1 e2 e3 e4 e5 e6 hI.2
    clear h1E h2E hI h1_0 h2_0 h1_1 h2_1 h1_2 h2_2 h1_3 h2_3 h1_4 h2_4 h1_5 h2_5 h1_6 h2_6 h1_7 h2_7 h1_8 h2_8
    refine ⟨fun z => ?_, fun z => ?_⟩
    · replace h1 := h1.1 z
      replace h2 := h2.1 z
      refine ⟨fun z => ?_, fun z => ?_⟩
      · replace h1 := h1.1 z
        replace h2 := h2.1 z
        intro x58 a4_0 x63 a4_1 a4_2 a4_3
        replace h1 := h1 x58 a4_0 x63 a4_1 a4_2 a4_3
        replace h2 := h2 x58 a4_0 x63 a4_1 a4_2 a4_3
        refine ⟨fun z => ?_, fun z => ?_⟩
        · replace h1 := h1.1 z
          replace h2 := h2.1 z
          intro x65 a5_0 x70 a5_1 a5_2 a5_3
          replace h1 := h1 x65 a5_0 x70 a5_1 a5_2 a5_3
          replace h2 := h2 x65 a5_0 x70 a5_1 a5_2 a5_3
          refine ⟨fun z => ?_, fun z => ?_⟩
          · replace h1 := h1.1 z
            replace h2 := h2.1 z
            obtain ⟨m, hm, hi⟩ := h1
            exact ⟨m, hm, hi, h2⟩
          · replace h1 := h1.2 z
            replace h2 := h2.2 z
            refine ⟨fun z => ?_, fun z => ?_⟩
            · replace h1 := h1.1 z
              replace h2 := h2.1 z
              obtain ⟨m, hm, hi⟩ := h1
              exact ⟨m, hm, hi, h2⟩
            · replace h1 := h1.2 z
              replace h2 := h2.2 z
              intro x73 a7_0 a7_1 a7_2
              replace h1 := h1 x73 a7_0 a7_1 a7_2
              replace h2 := h2 x73 a7_0 a7_1 a7_2
              refine ⟨fun z => ?_, fun z => ?_⟩
              · replace h1 := h1.1 z
                replace h2 := h2.1 z
                obtain ⟨m, hm, hi⟩ := h1
                exact ⟨m, hm, hi, h2⟩
              · replace h1 := h1.2 z
                replace h2 := h2.2 z
                intro g82 a8_0 g87 a8_1
                replace h1 := h1 g82 a8_0 g87 a8_1
                replace h2 := h2 g82 a8_0 g87 a8_1
                obtain ⟨m, hm, hi⟩ := h1
                exact ⟨m, hm, hi, h2⟩
        · replace h1 := h1.2 z
          replace h2 := h2.2 z
          refine ⟨fun z => ?_, fun z => ?_⟩
          · replace h1 := h1.1 z
            replace h2 := h2.1 z
            intro x89 a6_0 x94 a6_1 a6_2 a6_3
            replace h1 := h1 x89 a6_0 x94 a6_1 a6_2 a6_3
            replace h2 := h2 x89 a6_0 x94 a6_1 a6_2 a6_3
            refine ⟨fun z => ?_, fun z => ?_⟩
            · replace h1 := h1.1 z
              replace h2 := h2.1 z
              obtain ⟨m, hm, hi⟩ := h1
              exact ⟨m, hm, hi, h2⟩
            · replace h1 := h1.2 z
              replace h2 := h2.2 z
              refine ⟨fun z => ?_, fun z => ?_⟩
              · replace h1 := h1.1 z
                replace h2 := h2.1 z
                obtain ⟨m, hm, hi⟩ := h1
                exact ⟨m, hm, hi, h2⟩
              · replace h1 := h1.2 z
                replace h2 := h2.2 z
                intro x97 a8_0 a8_1 a8_2
                replace h1 := h1 x97 a8_0 a8_1 a8_2
                replace h2 := h2 x97 a8_0 a8_1 a8_2
                refine ⟨fun z => ?_, fun z => ?_⟩
                · replace h1 := h1.1 z
                  replace h2 := h2.1 z
                  obtain ⟨m, hm, hi⟩ := h1
                  exact ⟨m, hm, hi, h2⟩
                · replace h1 := h1.2 z
                  replace h2 := h2.2 z
                  intro g106 a9_0 g111 a9_1
                  replace h1 := h1 g106 a9_0 g111 a9_1
                  replace h2 := h2 g106 a9_0 g111 a9_1
                  obtain ⟨m, hm, hi⟩ := h1
                  exact ⟨m, hm, hi, h2⟩
          · replace h1 := h1.2 z
            replace h2 := h2.2 z
            intro x112 a6_0 a6_1 a6_2
            replace h1 := h1 x112 a6_0 a6_1 a6_2
            replace h2 := h2 x112 a6_0 a6_1 a6_2
            refine ⟨fun z => ?_, fun z => ?_⟩
            · replace h1 := h1.1 z
              replace h2 := h2.1 z
              obtain ⟨m, hm, hi⟩ := h1
              exact ⟨m, hm, hi, h2⟩
            · replace h1 := h1.2 z
              replace h2 := h2.2 z
              intro g121 a7_0 g126 a7_1
              replace h1 := h1 g121 a7_0 g126 a7_1
              replace h2 := h2 g121 a7_0 g126 a7_1
              obtain ⟨m, hm, hi⟩ := h1
              exact ⟨m, hm, hi, h2⟩
      · replace h1 := h1.2 z
        replace h2 := h2.2 z
        obtain ⟨m, hm, hi⟩ := h1
        exact ⟨m, hm, hi, h2⟩
    · replace h1 := h1.2 z
      replace h2 := h2.2 z
      refine ⟨fun z => ?_, fun z => ?_⟩
      · replace h1 := h1.1 z
        replace h2 := h2.1 z
        refine ⟨fun z => ?_, fun z => ?_⟩
        · replace h1 := h1.1 z
          replace h2 := h2.1 z
          intro x129 a5_0 x134 a5_1 a5_2 a5_3
          replace h1 := h1 x129 a5_0 x134 a5_1 a5_2 a5_3
          replace h2 := h2 x129 a5_0 x134 a5_1 a5_2 a5_3
          refine ⟨fun z => ?_, fun z => ?_⟩
          · replace h1 := h1.1 z
            replace h2 := h2.1 z
            intro x136 a6_0 x141 a6_1 a6_2 a6_3
            replace h1 := h1 x136 a6_0 x141 a6_1 a6_2 a6_3
            replace h2 := h2 x136 a6_0 x141 a6_1 a6_2 a6_3
            refine ⟨fun z => ?_, fun z => ?_⟩
            · replace h1 := h1.1 z
              replace h2 := h2.1 z
              obtain ⟨m, hm, hi⟩ := h1
              exact ⟨m, hm, hi, h2⟩
            · replace h1 := h1.2 z
              replace h2 := h2.2 z
              refine ⟨fun z => ?_, fun z => ?_⟩
              · replace h1 := h1.1 z
                replace h2 := h2.1 z
                obtain ⟨m, hm, hi⟩ := h1
                exact ⟨m, hm, hi, h2⟩
              · replace h1 := h1.2 z
                replace h2 := h2.2 z
                intro x144 a8_0 a8_1 a8_2
                replace h1 := h1 x144 a8_0 a8_1 a8_2
                replace h2 := h2 x144 a8_0 a8_1 a8_2
                refine ⟨fun z => ?_, fun z => ?_⟩
                · replace h1 := h1.1 z
                  replace h2 := h2.1 z
                  obtain ⟨m, hm, hi⟩ := h1
                  exact ⟨m, hm, hi, h2⟩
                · replace h1 := h1.2 z
                  replace h2 := h2.2 z
                  intro g153 a9_0 g158 a9_1
                  replace h1 := h1 g153 a9_0 g158 a9_1
                  replace h2 := h2 g153 a9_0 g158 a9_1
                  obtain ⟨m, hm, hi⟩ := h1
                  exact ⟨m, hm, hi, h2⟩
          · replace h1 := h1.2 z
            replace h2 := h2.2 z
            refine ⟨fun z => ?_, fun z => ?_⟩
            · replace h1 := h1.1 z
              replace h2 := h2.1 z
              intro x160 a7_0 x165 a7_1 a7_2 a7_3
              replace h1 := h1 x160 a7_0 x165 a7_1 a7_2 a7_3
              replace h2 := h2 x160 a7_0 x165 a7_1 a7_2 a7_3
              refine ⟨fun z => ?_, fun z => ?_⟩
              · replace h1 := h1.1 z
                replace h2 := h2.1 z
                obtain ⟨m, hm, hi⟩ := h1
                exact ⟨m, hm, hi, h2⟩
              · replace h1 := h1.2 z
                replace h2 := h2.2 z
                refine ⟨fun z => ?_, fun z => ?_⟩
                · replace h1 := h1.1 z
                  replace h2 := h2.1 z
                  obtain ⟨m, hm, hi⟩ := h1
                  exact ⟨m, hm, hi, h2⟩
                · replace h1 := h1.2 z
                  replace h2 := h2.2 z
                  intro x168 a9_0 a9_1 a9_2
                  replace h1 := h1 x168 a9_0 a9_1 a9_2
                  replace h2 := h2 x168 a9_0 a9_1 a9_2
                  refine ⟨fun z => ?_, fun z => ?_⟩
                  · replace h1 := h1.1 z
                    replace h2 := h2.1 z
                    obtain ⟨m, hm, hi⟩ := h1
                    exact ⟨m, hm, hi, h2⟩
                  · replace h1 := h1.2 z
                    replace h2 := h2.2 z
                    intro g177 a10_0 g182 a10_1
                    replace h1 := h1 g177 a10_0 g182 a10_1
                    replace h2 := h2 g177 a10_0 g182 a10_1
                    obtain ⟨m, hm, hi⟩ := h1
                    exact ⟨m, hm, hi, h2⟩
            · replace h1 := h1.2 z
              replace h2 := h2.2 z
              intro x183 a7_0 a7_1 a7_2
              replace h1 := h1 x183 a7_0 a7_1 a7_2
              replace h2 := h2 x183 a7_0 a7_1 a7_2
              refine ⟨fun z => ?_, fun z => ?_⟩
              · replace h1 := h1.1 z
                replace h2 := h2.1 z
                obtain ⟨m, hm, hi⟩ := h1
                exact ⟨m, hm, hi, h2⟩
              · replace h1 := h1.2 z
                replace h2 := h2.2 z
                intro g192 a8_0 g197 a8_1
                replace h1 := h1 g192 a8_0 g197 a8_1
                replace h2 := h2 g192 a8_0 g197 a8_1
                obtain ⟨m, hm, hi⟩ := h1
                exact ⟨m, hm, hi, h2⟩
        · replace h1 := h1.2 z
          replace h2 := h2.2 z
          obtain ⟨m, hm, hi⟩ := h1
          exact ⟨m, hm, hi, h2⟩
      · replace h1 := h1.2 z
        replace h2 := h2.2 z
        obtain ⟨m, hm, hi⟩ := h1
        exact ⟨m, hm, hi, h2⟩
  · intro n g v131_1 v131_2 v131_3 e0 e1 e2 e3 e4 e5 e6 hI
    have h1 := h1_3 n g v131_1 v131_2 v131_3 e0 e1 e2 e3 e4 e5 e6 hI.1
    have h2 := h2_3 g v131_1 v131_2 v131_3 e0 e1 e2 e3 e4 e5 e6 hI.2
    clear h1E h2E hI h1_0 h2_0 h1_1 h2_1 h1_2 h2_2 h1_3 h2_3 h1_4 h2_4 h1_5 h2_5 h1_6 h2_6 h1_7 h2_7 h1_8 h2_8
    intro g202 a2_0 g207 a2_1 g212 a2_2 x213 a2_3 g219 a2_4
    replace h1 := h1 g202 a2_0 g207 a2_1 g212 a2_2 x213 a2_3 g219 a2_4
    replace h2 := h2 g202 a2_0 g207 a2_1 g212 a2_2 x213 a2_3 g219 a2_4
    refine ⟨fun z => ?_, fun z => ?_⟩
    · replace h1 := h1.1 z
      replace h2 := h2.1 z
      intro g225 a3_0
      replace h1 := h1 g225 a3_0
      replace h2 := h2 g225 a3_0
      obtain ⟨m, hm, hi⟩ := h1
      exact ⟨m, hm, hi, h2⟩
    · replace h1 := h1.2 z
      replace h2 := h2.2 z
      refine ⟨fun z => ?_, fun z => ?_⟩
      · replace h1 := h1.1 z
        replace h2 := h2.1 z
        intro g231 a4_0
        replace h1 := h1 g231 a4_0
        replace h2 := h2 g231 a4_0
        obtain ⟨m, hm, hi⟩ := h1
        exact ⟨m, hm, hi, h2⟩
      · replace h1 := h1.2 z
        replace h2 := h2.2 z
        intro x235 a4_0 a4_1 a4_2 g240 a4_3
        replace h1 := h1 x235 a4_0 a4_1 a4_2 g240 a4_3
        replace h2 := h2 x235 a4_0 a4_1 a4_2 g240 a4_3
        exact ⟨h1, h2⟩
  · intro n g v200_1 v200_2 v200_3 v200_4 v200_5 e0 e1 e2 e3 e4 e5 e6 e7 e8 e9 hI
    have h1 := h1_4 n g v200_1 v200_2 v200_3 v200_4 v200_5 e0 e1 e2 e3 e4 e5 e6 e7 e8 e9 hI.1
    have h2 := h2_4 g v200_1 v200_2 v200_3 v200_4 v200_5 e0 e1 e2 e3 e4 e5 e6 e7 e8 e9 hI.2
    clear h1E h2E hI h1_0 h2_0 h1_1 h2_1 h1_2 h2_2 h1_3 h2_3 h1_4 h2_4 h1_5 h2_5 h1_6 h2_6 h1_7 h2_7 h1_8 h2_8
    intro x241 a2_0 a2_1 a2_2
    replace h1 := h1 x241 a2_0 a2_1 a2_2
    replace h2 := h2 x241 a2_0 a2_1 a2_2
    refine ⟨fun z => ?_, fun z => ?_⟩
    · replace h1 := h1.1 z
      replace h2 := h2.1 z
      refine ⟨fun z => ?_, fun z => ?_⟩
      · replace h1 := h1.1 z
        replace h2 := h2.1 z
        intro x250 a4_0 a4_1 a4_2
        replace h1 := h1 x250 a4_0 a4_1 a4_2
        replace h2 := h2 x250 a4_0 a4_1 a4_2
        refine ⟨fun z => ?_, fun z => ?_⟩
        · replace h1 := h1.1 z
          replace h2 := h2.1 z
          obtain ⟨m, hm, hi⟩ := h1
          exact ⟨m, hm, hi, h2⟩
        · replace h1 := h1.2 z
          replace h2 := h2.2 z
          refine ⟨fun z => ?_, fun z => ?_⟩
          · replace h1 := h1.1 z
            replace h2 := h2.1 z
            obtain ⟨m, hm, hi⟩ := h1
            exact ⟨m, hm, hi, h2⟩
          · replace h1 := h1.2 z
            replace h2 := h2.2 z
            refine ⟨fun z => ?_, fun z => ?_⟩
            · replace h1 := h1.1 z
              replace h2 := h2.1 z
              obtain ⟨m, hm, hi⟩ := h1
              exact ⟨m, hm, hi, h2⟩
            · replace h1 := h1.2 z
              replace h2 := h2.2 z
              intro x254 a7_0 a7_1 a7_2
              replace h1 := h1 x254 a7_0 a7_1 a7_2
              replace h2 := h2 x254 a7_0 a7_1 a7_2
              refine ⟨fun z => ?_, fun z => ?_⟩
              · replace h1 := h1.1 z
                replace h2 := h2.1 z
                obtain ⟨m, hm, hi⟩ := h1
                exact ⟨m, hm, hi, h2⟩
              · replace h1 := h1.2 z
                replace h2 := h2.2 z
                intro g263 a8_0 g268 a8_1
                replace h1 := h1 g263 a8_0 g268 a8_1
                replace h2 := h2 g263 a8_0 g268 a8_1
                obtain ⟨m, hm, hi⟩ := h1
                exact ⟨m, hm, hi, h2⟩
      · replace h1 := h1.2 z
        replace h2 := h2.2 z
        intro x272 a4_0 a4_1 a4_2
        replace h1 := h1 x272 a4_0 a4_1 a4_2
        replace h2 := h2 x272 a4_0 a4_1 a4_2
        refine ⟨fun z => ?_, fun z => ?_⟩
        · replace h1 := h1.1 z
          replace h2 := h2.1 z
          obtain ⟨m, hm, hi⟩ := h1
          exact ⟨m, hm, hi, h2⟩
        · replace h1 := h1.2 z
          replace h2 := h2.2 z
          refine ⟨fun z => ?_, fun z => ?_⟩
          · replace h1 := h1.1 z
            replace h2 := h2.1 z
            obtain ⟨m, hm, hi⟩ := h1
            exact ⟨m, hm, hi, h2⟩
          · replace h1 := h1.2 z
            replace h2 := h2.2 z
            refine ⟨fun z => ?_, fun z => ?_⟩
            · replace h1 := h1.1 z
              replace h2 := h2.1 z
              obtain ⟨m, hm, hi⟩ := h1
              exact ⟨m, hm, hi, h2⟩
            · replace h1 := h1.2 z
              replace h2 := h2.2 z
              intro x276 a7_0 a7_1 a7_2
              replace h1 := h1 x276 a7_0 a7_1 a7_2
              replace h2 := h2 x276 a7_0 a7_1 a7_2
              refine ⟨fun z => ?_, fun z => ?_⟩
              · replace h1 := h1.1 z
                replace h2 := h2.1 z
                obtain ⟨m, hm, hi⟩ := h1
                exact ⟨m, hm, hi, h2⟩
              · replace h1 := h1.2 z
                replace h2 := h2.2 z
                intro g285 a8_0 g290 a8_1
                replace h1 := h1 g285 a8_0 g290 a8_1
                replace h2 := h2 g285 a8_0 g290 a8_1
                obtain ⟨m, hm, hi⟩ := h1
                exact ⟨m, hm, hi, h2⟩
    · replace h1 := h1.2 z
      replace h2 := h2.2 z
      obtain ⟨m, hm, hi⟩ := h1
      exact ⟨m, hm, hi, h2⟩
  · intro n g v252_1 v252_2 v252_3 v252_4 v252_5 e0 e1 e2 e3 e4 e5 e6 e7 e8 e9 hI
    have h1 := h1_5 n g v252_1 v252_2 v252_3 v252_4 v252_5 e0 e1 e2 e3 e4 e5 e6 e7 e8 e9 hI.1
    have h2 := h2_5 g v252_1 v252_2 v252_3 v252_4 v252_5 e0 e1 e2 e3 e4 e5 e6 e7 e8 e9 hI.2
    clear h1E h2E hI h1_0 h2_0 h1_1 h2_1 h1_2 h2_2 h1_3 h2_3 h1_4 h2_4 h1_5 h2_5 h1_6 h2_6 h1_7 h2_7 h1_8 h2_8
    refine ⟨fun z => ?_, fun z => ?_⟩
    · replace h1 := h1.1 z
      replace h2 := h2.1 z
      refine ⟨fun z => ?_, fun z => ?_⟩
      · replace h1 := h1.1 z
        replace h2 := h2.1 z
        intro y296 a4_0
        replace h1 := h1 y296 a4_0
        replace h2 := h2 y296 a4_0
        refine ⟨h1.1, ?_⟩
        replace h2 := h2 h1.1
        replace h1 := h1.2
        intro y298 a4_0 x303 a4_1 a4_2 a4_3 y304 a4_4
        replace h1 := h1 y298 a4_0 x303 a4_1 a4_2 a4_3 y304 a4_4
        replace h2 := h2 y298 a4_0 x303 a4_1 a4_2 a4_3 y304 a4_4
        refine ⟨h1.1, ?_⟩
        replace h2 := h2 h1.1
        replace h1 := h1.2
        intro y307 a4_0 g313 a4_1
        replace h1 := h1 y307 a4_0 g313 a4_1
        replace h2 := h2 y307 a4_0 g313 a4_1
        obtain ⟨m, hm, hi⟩ := h1
        exact ⟨m, hm, hi, h2⟩
      · replace h1 := h1.2 z
        replace h2 := h2.2 z
        obtain ⟨m, hm, hi⟩ := h1
        exact ⟨m, hm, hi, h2⟩
    · replace h1 := h1.2 z
      replace h2 := h2.2 z
      obtain ⟨m, hm, hi⟩ := h1
      exact ⟨m, hm, hi, h2⟩
  · intro n g v282_1 v282_2 v282_3 v282_4 v282_5 e0 e1 e2 e3 e4 e5 e6 e7 e8 e9 hI
    have h1 := h1_6 n g v282_1 v282_2 v282_3 v282_4 v282_5 e0 e1 e2 e3 e4 e5 e6 e7 e8 e9 hI.1
    have h2 := h2_6 g v282_1 v282_2 v282_3 v282_4 v282_5 e0 e1 e2 e3 e4 e5 e6 e7 e8 e9 hI.2
    clear h1E h2E hI h1_0 h2_0 h1_1 h2_1 h1_2 h2_2 h1_3 h2_3 h1_4 h2_4 h1_5 h2_5 h1_6 h2_6 h1_7 h2_7 h1_8 h2_8
    refine ⟨fun z => ?_, fun z => ?_⟩
    · replace h1 := h1.1 z
      replace h2 := h2.1 z
      refine ⟨fun z => ?_, fun z => ?_⟩
      · replace h1 := h1.1 z
        replace h2 := h2.1 z
        intro x316 a4_0 x321 a4_1 x325 a4_2 a4_3 a4_4 x327 a4_5 x329 a4_6 g334 a4_7
        replace h1 := h1 x316 a4_0 x321 a4_1 x325 a4_2 a4_3 a4_4 x327 a4_5 x329 a4_6 g334 a4_7
        replace h2 := h2 x316 a4_0 x321 a4_1 x325 a4_2 a4_3 a4_4 x327 a4_5 x329 a4_6 g334 a4_7
        obtain ⟨m, hm, hi⟩ := h1
        exact ⟨m, hm, hi, h2⟩
      · replace h1 := h1.2 z
        replace h2 := h2.2 z
        obtain ⟨m, hm, hi⟩ := h1
        exact ⟨m, hm, hi, h2⟩
    · replace h1 := h1.2 z
      replace h2 := h2.2 z
      obtain ⟨m, hm, hi⟩ := h1
      exact ⟨m, hm, hi, h2⟩
  · intro n g v314_1 v314_2 v314_3 v314_4 v314_5 e0 e1 e2 e3 e4 e5 e6 e7 e8 e9 hI
    have h1 := h1_7 n g v314_1 v314_2 v314_3 v314_4 v314_5 e0 e1 e2 e3 e4 e5 e6 e7 e8 e9 hI.1
    have h2 := h2_7 g v314_1 v314_2 v314_3 v314_4 v314_5 e0 e1 e2 e3 e4 e5 e6 e7 e8 e9 hI.2
    clear h1E h2E hI h1_0 h2_0 h1_1 h2_1 h1_2 h2_2 h1_3 h2_3 h1_4 h2_4 h1_5 h2_5 h1_6 h2_6 h1_7 h2_7 h1_8 h2_8
    refine ⟨h1.1, ?_⟩
    replace h2 := h2 h1.1
    replace h1 := h1.2
    intro x336 a2_0 x338 a2_1
    replace h1 := h1 x336 a2_0 x338 a2_1
    replace h2 := h2 x336 a2_0 x338 a2_1
    obtain ⟨m, hm, hi⟩ := h1
    exact ⟨m, hm, hi, h2⟩
  · intro n g v323_1 e0 e1 e2 hI
    have h1 := h1_8 n g v323_1 e0 e1 e2 hI.1
    have h2 := h2_8 g v323_1 e0 e1 e2 hI.2
    clear h1E h2E hI h1_0 h2_0 h1_1 h2_1 h1_2 h2_2 h1_3 h2_3 h1_4 h2_4 h1_5 h2_5 h1_6 h2_6 h1_7 h2_7 h1_8 h2_8
    intro g344 a2_0
    replace h1 := h1 g344 a2_0
    replace h2 := h2 g344 a2_0
    exact ⟨h1, h2⟩
set_option maxRecDepth 100000 in
def p_2319 (s0 : zF) (a0 : Int) (Q : Int → zF → Prop) : Prop :=
  ∀ x1 : Int, (x1 = -1 ∧ a0 < 6451065 ∨ x1 = 0 ∧ a0 = 6451065 ∨ x1 = 1 ∧ 6451065 < a0) → (¬ x1 = 0 → ∀ x4 : Int, (x4 = -1 ∧ a0 < 131277443786868 ∨ x4 = 0 ∧ a0 = 131277443786868 ∨ x4 = 1 ∧ 131277443786868 < a0) → (¬ x4 = 0 → ∀ x7 : Int, (x7 = -1 ∧ a0 < 431198598248 ∨ x7 = 0 ∧ a0 = 431198598248 ∨ x7 = 1 ∧ 431198598248 < a0) → (¬ x7 = 0 → ∀ x10 : Int, (x10 = -1 ∧ a0 < 1868850291 ∨ x10 = 0 ∧ a0 = 1868850291 ∨ x10 = 1 ∧ 1868850291 < a0) → (¬ x10 = 0 → ∀ x13 : Int, (x13 = -1 ∧ a0 < 483006377075 ∨ x13 = 0 ∧ a0 = 483006377075 ∨ x13 = 1 ∧ 483006377075 < a0) → (¬ x13 = 0 → ∀ x16 : Int, (x16 = -1 ∧ a0 < 126918153364851 ∨ x16 = 0 ∧ a0 = 126918153364851 ∨ x16 = 1 ∧ 126918153364851 < a0) → (¬ x16 = 0 → ∀ x19 : Int, (x19 = -1 ∧ a0 < 444133766004 ∨ x19 = 0 ∧ a0 = 444133766004 ∨ x19 = 1 ∧ 444133766004 < a0) → (¬ x19 = 0 → ∀ x22 : Int, (x22 = -1 ∧ a0 < 495739560811 ∨ x22 = 0 ∧ a0 = 495739560811 ∨ x22 = 1 ∧ 495739560811 < a0) → (¬ x22 = 0 → ∀ x25 : Int, (x25 = -1 ∧ a0 < 24948 ∨ x25 = 0 ∧ a0 = 24948 ∨ x25 = 1 ∧ 24948 < a0) → (¬ x25 = 0 → ∀ x28 : Int, (x28 = -1 ∧ a0 < 431415976301 ∨ x28 = 0 ∧ a0 = 431415976301 ∨ x28 = 1 ∧ 431415976301 < a0) → (¬ x28 = 0 → ∀ x31 : Int, (x31 = -1 ∧ a0 < 7632231 ∨ x31 = 0 ∧ a0 = 7632231 ∨ x31 = 1 ∧ 7632231 < a0) → (¬ x31 = 0 → ∀ x34 : Int, (x34 = -1 ∧ a0 < 465491424371 ∨ x34 = 0 ∧ a0 = 465491424371 ∨ x34 = 1 ∧ 465491424371 < a0) → (¬ x34 = 0 → ∀ x37 : Int, (x37 = -1 ∧ a0 < 123563851081075 ∨ x37 = 0 ∧ a0 = 123563851081075 ∨ x37 = 1 ∧ 123563851081075 < a0) → (¬ x37 = 0 → ∀ x40 : Int, (x40 = -1 ∧ a0 < 1885434739 ∨ x40 = 0 ∧ a0 = 1885434739 ∨ x40 = 1 ∧ 1885434739 < a0) → (¬ x40 = 0 → ∀ x43 : Int, (x43 = -1 ∧ a0 < 1684366704 ∨ x43 = 0 ∧ a0 = 1684366704 ∨ x43 = 1 ∧ 1684366704 < a0) → (¬ x43 = 0 → ∀ x46 : Int, (x46 = -1 ∧ a0 < 2003330414 ∨ x46 = 0 ∧ a0 = 2003330414 ∨ x46 = 1 ∧ 2003330414 < a0) → (¬ x46 = 0 → ∀ x49 : Int, (x49 = -1 ∧ a0 < 28530 ∨ x49 = 0 ∧ a0 = 28530 ∨ x49 = 1 ∧ 28530 < a0) → (¬ x49 = 0 → ∀ x52 : Int, (x52 = -1 ∧ a0 < 6385252 ∨ x52 = 0 ∧ a0 = 6385252 ∨ x52 = 1 ∧ 6385252 < a0) → (¬ x52 = 0 → ∀ x55 : Int, (x55 = -1 ∧ a0 < 7237492 ∨ x55 = 0 ∧ a0 = 7237492 ∨ x55 = 1 ∧ 7237492 < a0) → (¬ x55 = 0 → ∀ x58 : Int, (x58 = -1 ∧ a0 < 6384748 ∨ x58 = 0 ∧ a0 = 6384748 ∨ x58 = 1 ∧ 6384748 < a0) → (¬ x58 = 0 → ∀ x61 : Int, (x61 = -1 ∧ a0 < 439956431717 ∨ x61 = 0 ∧ a0 = 439956431717 ∨ x61 = 1 ∧ 439956431717 < a0) → (¬ x61 = 0 → ∀ x64 : Int, (x64 = -1 ∧ a0 < 482854658917 ∨ x64 = 0 ∧ a0 = 482854658917 ∨ x64 = 1 ∧ 482854658917 < a0) → (¬ x64 = 0 → ∀ x67 : Int, (x67 = -1 ∧ a0 < 120299592184933 ∨ x67 = 0 ∧ a0 = 120299592184933 ∨ x67 = 1 ∧ 120299592184933 < a0) → (¬ x67 = 0 → ∀ x70 : Int, (x70 = -1 ∧ a0 < 108187867505765 ∨ x70 = 0 ∧ a0 = 108187867505765 ∨ x70 = 1 ∧ 108187867505765 < a0) → (¬ x70 = 0 → ∀ x73 : Int, (x73 = -1 ∧ a0 < 1717922932 ∨ x73 = 0 ∧ a0 = 1717922932 ∨ x73 = 1 ∧ 1717922932 < a0) → (¬ x73 = 0 → ∀ x76 : Int, (x76 = -1 ∧ a0 < 7170414 ∨ x76 = 0 ∧ a0 = 7170414 ∨ x76 = 1 ∧ 7170414 < a0) → (¬ x76 = 0 → ∀ x79 : Int, (x79 = -1 ∧ a0 < 7168376 ∨ x79 = 0 ∧ a0 = 7168376 ∨ x79 = 1 ∧ 7168376 < a0) → (¬ x79 = 0 → Q 0 s0) ∧ (x79 = 0 → Q 1 s0)) ∧ (x76 = 0 → Q 1 s0)) ∧ (x73 = 0 → Q 1 s0)) ∧ (x70 = 0 → Q 1 s0)) ∧ (x67 = 0 → Q 1 s0)) ∧ (x64 = 0 → Q 1 s0)) ∧ (x61 = 0 → Q 1 s0)) ∧ (x58 = 0 → Q 1 s0)) ∧ (x55 = 0 → Q 1 s0)) ∧ (x52 = 0 → Q 1 s0)) ∧ (x49 = 0 → Q 1 s0)) ∧ (x46 = 0 → Q 1 s0)) ∧ (x43 = 0 → Q 1 s0)) ∧ (x40 = 0 → Q 1 s0)) ∧ (x37 = 0 → Q 1 s0)) ∧ (x34 = 0 → Q 1 s0)) ∧ (x31 = 0 → Q 1 s0)) ∧ (x28 = 0 → Q 1 s0)) ∧ (x25 = 0 → Q 1 s0)) ∧ (x22 = 0 → Q 1 s0)) ∧ (x19 = 0 → Q 1 s0)) ∧ (x16 = 0 → Q 1 s0)) ∧ (x13 = 0 → Q 1 s0)) ∧ (x10 = 0 → Q 1 s0)) ∧ (x7 = 0 → Q 1 s0)) ∧ (x4 = 0 → Q 1 s0)) ∧ (x1 = 0 → Q 1 s0)
set_option maxRecDepth 100000 in
theorem cj_2319 {s0 : zF} {a0 : Int} {Q1 Q2 : Int → zF → Prop} (h1 : b_2319 s0 a0 Q1) (h2 : p_2319 s0 a0 Q2) : b_2319 s0 a0 (fun v g => Q1 v g ∧ Q2 v g) := by
  unfold b_2319 at h1 ⊢
  unfold p_2319 at h2
  intro x1 a1_0
  replace h1 := h1 x1 a1_0
  replace h2 := h2 x1 a1_0
  refine ⟨fun z => ?_, fun z => ?_⟩
  · replace h1 := h1.1 z
    replace h2 := h2.1 z
    intro x4 a2_0
    replace h1 := h1 x4 a2_0
    replace h2 := h2 x4 a2_0
    refine ⟨fun z => ?_, fun z => ?_⟩
    · replace h1 := h1.1 z
      replace h2 := h2.1 z
      intro x7 a3_0
      replace h1 := h1 x7 a3_0
      replace h2 := h2 x7 a3_0
      refine ⟨fun z => ?_, fun z => ?_⟩
      · replace h1 := h1.1 z
        replace h2 := h2.1 z
        intro x10 a4_0
        replace h1 := h1 x10 a4_0
        replace h2 := h2 x10 a4_0
        refine ⟨fun z => ?_, fun z => ?_⟩
        · replace h1 := h1.1 z
          replace h2 := h2.1 z
          intro x13 a5_0
          replace h1 := h1 x13 a5_0
          replace h2 := h2 x13 a5_0
          refine ⟨fun z => ?_, fun z => ?_⟩
          · replace h1 := h1.1 z
            replace h2 := h2.1 z
            intro x16 a6_0
            replace h1 := h1 x16 a6_0
            replace h2 := h2 x16 a6_0
            refine ⟨fun z => ?_, fun z => ?_⟩
            · replace h1 := h1.1 z
              replace h2 := h2.1 z
              intro x19 a7_0
              replace h1 := h1 x19 a7_0
              replace h2 := h2 x19 a7_0
              refine ⟨fun z => ?_, fun z => ?_⟩
              · replace h1 := h1.1 z
                replace h2 := h2.1 z
                intro x22 a8_0
                replace h1 := h1 x22 a8_0
                replace h2 := h2 x22 a8_0
                refine ⟨fun z => ?_, fun z => ?_⟩
                · replace h1 := h1.1 z
                  replace h2 := h2.1 z
                  intro x25 a9_0
                  replace h1 := h1 x25 a9_0
                  replace h2 := h2 x25 a9_0
                  refine ⟨fun z => ?_, fun z => ?_⟩
                  · replace h1 := h1.1 z
                    replace h2 := h2.1 z
                    intro x28 a10_0
                    replace h1 := h1 x28 a10_0
                    replace h2 := h2 x28 a10_0
                    refine ⟨fun z => ?_, fun z => ?_⟩
                    · replace h1 := h1.1 z
                      replace h2 := h2.1 z
                      intro x31 a11_0
                      replace h1 := h1 x31 a11_0
                      replace h2 := h2 x31 a11_0
                      refine ⟨fun z => ?_, fun z => ?_⟩
                      · replace h1 := h1.1 z
                        replace h2 := h2.1 z
                        intro x34 a12_0
                        replace h1 := h1 x34 a12_0
                        replace h2 := h2 x34 a12_0
                        refine ⟨fun z => ?_, fun z => ?_⟩
                        · replace h1 := h1.1 z
                          replace h2 := h2.1 z
                          intro x37 a13_0
                          replace h1 := h1 x37 a13_0
                          replace h2 := h2 x37 a13_0
                          refine ⟨fun z => ?_, fun z => ?_⟩
                          · replace h1 := h1.1 z
                            replace h2 := h2.1 z
                            intro x40 a14_0
                            replace h1 := h1 x40 a14_0
                            replace h2 := h2 x40 a14_0
                            refine ⟨fun z => ?_, fun z => ?_⟩
                            · replace h1 := h1.1 z
                              replace h2 := h2.1 z
                              intro x43 a15_0
                              replace h1 := h1 x43 a15_0
                              replace h2 := h2 x43 a15_0
                              refine ⟨fun z => ?_, fun z => ?_⟩
                              · replace h1 := h1.1 z
                                replace h2 := h2.1 z
                                intro x46 a16_0
                                replace h1 := h1 x46 a16_0
                                replace h2 := h2 x46 a16_0
                                refine ⟨fun z => ?_, fun z => ?_⟩
                                · replace h1 := h1.1 z
                                  replace h2 := h2.1 z
                                  intro x49 a17_0
                                  replace h1 := h1 x49 a17_0
                                  replace h2 := h2 x49 a17_0
                                  refine ⟨fun z => ?_, fun z => ?_⟩
                                  · replace h1 := h1.1 z
                                    replace h2 := h2.1 z
                                    intro x52 a18_0
                                    replace h1 := h1 x52 a18_0
                                    replace h2 := h2 x52 a18_0
                                    refine ⟨fun z => ?_, fun z => ?_⟩
                                    · replace h1 := h1.1 z
                                      replace h2 := h2.1 z
                                      intro x55 a19_0
                                      replace h1 := h1 x55 a19_0
                                      replace h2 := h2 x55 a19_0
                                      refine ⟨fun z => ?_, fun z => ?_⟩
                                      · replace h1 := h1.1 z
                                        replace h2 := h2.1 z
                                        intro x58 a20_0
                                        replace h1 := h1 x58 a20_0
                                        replace h2 := h2 x58 a20_0
                                        refine ⟨fun z => ?_, fun z => ?_⟩
                                        · replace h1 := h1.1 z
                                          replace h2 := h2.1 z
                                          intro x61 a21_0
                                          replace h1 := h1 x61 a21_0
                                          replace h2 := h2 x61 a21_0
                                          refine ⟨fun z => ?_, fun z => ?_⟩
                                          · replace h1 := h1.1 z
                                            replace h2 := h2.1 z
                                            intro x64 a22_0
                                            replace h1 := h1 x64 a22_0
                                            replace h2 := h2 x64 a22_0
                                            refine ⟨fun z => ?_, fun z => ?_⟩
                                            · replace h1 := h1.1 z
                                              replace h2 := h2.1 z
                                              intro x67 a23_0
                                              replace h1 := h1 x67 a23_0
                                              replace h2 := h2 x67 a23_0
                                              refine ⟨fun z => ?_, fun z => ?_⟩
                                              · replace h1 := h1.1 z
                                                replace h2 := h2.1 z
                                                intro x70 a24_0
                                                replace h1 := h1 x70 a24_0
                                                replace h2 := h2 x70 a24_0
                                                refine ⟨fun z => ?_, fun z => ?_⟩
                                                · replace h1 := h1.1 z
                                                  replace h2 := h2.1 z
                                                  intro x73 a25_0
                                                  replace h1 := h1 x73 a25_0
                                                  replace h2 := h2 x73 a25_0
                                                  refine ⟨fun z => ?_, fun z => ?_⟩
                                                  · replace h1 := h1.1 z
                                                    replace h2 := h2.1 z
                                                    intro x76 a26_0
                                                    replace h1 := h1 x76 a26_0
                                                    replace h2 := h2 x76 a26_0
                                                    refine ⟨fun z => ?_, fun z => ?_⟩
                                                    · replace h1 := h1.1 z
                                                      replace h2 := h2.1 z
                                                      intro x79 a27_0
                                                      replace h1 := h1 x79 a27_0
                                                      replace h2 := h2 x79 a27_0
                                                      refine ⟨fun z => ?_, fun z => ?_⟩
                                                      · replace h1 := h1.1 z
                                                        replace h2 := h2.1 z
                                                        exact ⟨h1, h2⟩
                                                      · replace h1 := h1.2 z
                                                        replace h2 := h2.2 z
                                                        exact ⟨h1, h2⟩
                                                    · replace h1 := h1.2 z
                                                      replace h2 := h2.2 z
                                                      exact ⟨h1, h2⟩
                                                  · replace h1 := h1.2 z
                                                    replace h2 := h2.2 z
                                                    exact ⟨h1, h2⟩
                                                · replace h1 := h1.2 z
                                                  replace h2 := h2.2 z
                                                  exact ⟨h1, h2⟩
                                              · replace h1 := h1.2 z
                                                replace h2 := h2.2 z
                                                exact ⟨h1, h2⟩
                                            · replace h1 := h1.2 z
                                              replace h2 := h2.2 z
                                              exact ⟨h1, h2⟩
                                          · replace h1 := h1.2 z
                                            replace h2 := h2.2 z
                                            exact ⟨h1, h2⟩
                                        · replace h1 := h1.2 z
                                          replace h2 := h2.2 z
                                          exact ⟨h1, h2⟩
                                      · replace h1 := h1.2 z
                                        replace h2 := h2.2 z
                                        exact ⟨h1, h2⟩
                                    · replace h1 := h1.2 z
                                      replace h2 := h2.2 z
                                      exact ⟨h1, h2⟩
                                  · replace h1 := h1.2 z
                                    replace h2 := h2.2 z
                                    exact ⟨h1, h2⟩
                                · replace h1 := h1.2 z
                                  replace h2 := h2.2 z
                                  exact ⟨h1, h2⟩
                              · replace h1 := h1.2 z
                                replace h2 := h2.2 z
                                exact ⟨h1, h2⟩
                            · replace h1 := h1.2 z
                              replace h2 := h2.2 z
                              exact ⟨h1, h2⟩
                          · replace h1 := h1.2 z
                            replace h2 := h2.2 z
                            exact ⟨h1, h2⟩
                        · replace h1 := h1.2 z
                          replace h2 := h2.2 z
                          exact ⟨h1, h2⟩
                      · replace h1 := h1.2 z
                        replace h2 := h2.2 z
                        exact ⟨h1, h2⟩
                    · replace h1 := h1.2 z
                      replace h2 := h2.2 z
                      exact ⟨h1, h2⟩
                  · replace h1 := h1.2 z
                    replace h2 := h2.2 z
                    exact ⟨h1, h2⟩
                · replace h1 := h1.2 z
                  replace h2 := h2.2 z
                  exact ⟨h1, h2⟩
              · replace h1 := h1.2 z
                replace h2 := h2.2 z
                exact ⟨h1, h2⟩
            · replace h1 := h1.2 z
              replace h2 := h2.2 z
              exact ⟨h1, h2⟩
          · replace h1 := h1.2 z
            replace h2 := h2.2 z
            exact ⟨h1, h2⟩
        · replace h1 := h1.2 z
          replace h2 := h2.2 z
          exact ⟨h1, h2⟩
      · replace h1 := h1.2 z
        replace h2 := h2.2 z
        exact ⟨h1, h2⟩
    · replace h1 := h1.2 z
      replace h2 := h2.2 z
      exact ⟨h1, h2⟩
  · replace h1 := h1.2 z
    replace h2 := h2.2 z
    exact ⟨h1, h2⟩
set_option maxRecDepth 100000 in
def p_2320 (s0 : zF) (a0 : Int) (Q : Int → zF → Prop) : Prop :=
  ∃ (I2 : zF → Int → Int → Prop) (I44 : zF → Int → Int → Prop),
    (I2 s0 a0 0) ∧
    (∀ (g : zF) (y2_1 : Int) (v2_3 : Int), zFr [] s0 g → 0 ≤ v2_3 → v2_3 ≤ 12 → I2 g y2_1 v2_3 → ∀ x1 : Int, x1 = g (386) 35 → 0 ≤ x1 → x1 ≤ 1 → ∀ x8 : Int, x8 = g (388) x1.toNat → 0 ≤ x8 → x8 ≤ 12 → (v2_3 < x8 → ∀ x10 : Int, x10 = 12 * x1 → ∀ x12 : Int, x12 = x10 + v2_3 → ∀ y17 : Int, y17 = g (389) x12.toNat → ∀ x18 : Int, (x18 = -1 ∧ y17 < y2_1 ∨ x18 = 0 ∧ y17 = y2_1 ∨ x18 = 1 ∧ y2_1 < y17) → (¬ x18 = 0 → ∀ x21 : Int, x21 = v2_3 + 1 → I2 g y2_1 x21) ∧ (x18 = 0 → Q 1 g)) ∧ (x8 ≤ v2_3 → I44 g y2_1 0)) ∧
    (∀ (g : zF) (y44_1 : Int) (v44_3 : Int), zFr [] s0 g → 0 ≤ v44_3 → v44_3 ≤ 6 → I44 g y44_1 v44_3 → ∀ x23 : Int, x23 = g (386) 35 → 0 ≤ x23 → x23 ≤ 1 → ∀ x30 : Int, x30 = g (396) x23.toNat → 0 ≤ x30 → x30 ≤ 6 → (v44_3 < x30 → ∀ x32 : Int, x32 = 6 * x23 → ∀ x34 : Int, x34 = x32 + v44_3 → ∀ y39 : Int, y39 = g (397) x34.toNat → ∀ x40 : Int, (x40 = -1 ∧ y39 < y44_1 ∨ x40 = 0 ∧ y39 = y44_1 ∨ x40 = 1 ∧ y44_1 < y39) → (¬ x40 = 0 → ∀ x43 : Int, x43 = v44_3 + 1 → I44 g y44_1 x43) ∧ (x40 = 0 → Q 1 g)) ∧ (x30 ≤ v44_3 → Q 0 g))
set_option maxRecDepth 100000 in
theorem cj_2320 {s0 : zF} {a0 : Int} {Q1 Q2 : Int → zF → Prop} (h1 : b_2320 s0 a0 Q1) (h2 : p_2320 s0 a0 Q2) : b_2320 s0 a0 (fun v g => Q1 v g ∧ Q2 v g) := by
  obtain ⟨I2, I44, h1E, h1_0, h1_1⟩ := h1
  obtain ⟨J2, J44, h2E, h2_0, h2_1⟩ := h2
  refine ⟨fun n g y0 y1 => I2 n g y0 y1 ∧ J2 g y0 y1, fun n g y0 y1 => I44 n g y0 y1 ∧ J44 g y0 y1, ?_, ?_, ?_⟩
  · have h1 := h1E
    have h2 := h2E
    clear h1E h2E h1_0 h2_0 h1_1 h2_1
    obtain ⟨m, hi⟩ := h1
    exact ⟨m, hi, h2⟩
  · intro n g y2_1 v2_3 e0 e1 e2 hI
    have h1 := h1_0 n g y2_1 v2_3 e0 e1 e2 hI.1
    have h2 := h2_0 g y2_1 v2_3 e0 e1 e2 hI.2
    clear h1E h2E hI h1_0 h2_0 h1_1 h2_1
    intro x1 a2_0 a2_1 a2_2 x8 a2_3 a2_4 a2_5
    replace h1 := h1 x1 a2_0 a2_1 a2_2 x8 a2_3 a2_4 a2_5
    replace h2 := h2 x1 a2_0 a2_1 a2_2 x8 a2_3 a2_4 a2_5
    refine ⟨fun z => ?_, fun z => ?_⟩
    · replace h1 := h1.1 z
      replace h2 := h2.1 z
      intro x10 a3_0 x12 a3_1 y17 a3_2 x18 a3_3
      replace h1 := h1 x10 a3_0 x12 a3_1 y17 a3_2 x18 a3_3
      replace h2 := h2 x10 a3_0 x12 a3_1 y17 a3_2 x18 a3_3
      refine ⟨fun z => ?_, fun z => ?_⟩
      · replace h1 := h1.1 z
        replace h2 := h2.1 z
        intro x21 a4_0
        replace h1 := h1 x21 a4_0
        replace h2 := h2 x21 a4_0
        obtain ⟨m, hm, hi⟩ := h1
        exact ⟨m, hm, hi, h2⟩
      · replace h1 := h1.2 z
        replace h2 := h2.2 z
        exact ⟨h1, h2⟩
    · replace h1 := h1.2 z
      replace h2 := h2.2 z
      obtain ⟨m, hm, hi⟩ := h1
      exact ⟨m, hm, hi, h2⟩
  · intro n g y44_1 v44_3 e0 e1 e2 hI
    have h1 := h1_1 n g y44_1 v44_3 e0 e1 e2 hI.1
    have h2 := h2_1 g y44_1 v44_3 e0 e1 e2 hI.2
    clear h1E h2E hI h1_0 h2_0 h1_1 h2_1
    intro x23 a2_0 a2_1 a2_2 x30 a2_3 a2_4 a2_5
    replace h1 := h1 x23 a2_0 a2_1 a2_2 x30 a2_3 a2_4 a2_5
    replace h2 := h2 x23 a2_0 a2_1 a2_2 x30 a2_3 a2_4 a2_5
    refine ⟨fun z => ?_, fun z => ?_⟩
    · replace h1 := h1.1 z
      replace h2 := h2.1 z
      intro x32 a3_0 x34 a3_1 y39 a3_2 x40 a3_3
      replace h1 := h1 x32 a3_0 x34 a3_1 y39 a3_2 x40 a3_3
      replace h2 := h2 x32 a3_0 x34 a3_1 y39 a3_2 x40 a3_3
      refine ⟨fun z => ?_, fun z => ?_⟩
      · replace h1 := h1.1 z
        replace h2 := h2.1 z
        intro x43 a4_0
        replace h1 := h1 x43 a4_0
        replace h2 := h2 x43 a4_0
        obtain ⟨m, hm, hi⟩ := h1
        exact ⟨m, hm, hi, h2⟩
      · replace h1 := h1.2 z
        replace h2 := h2.2 z
        exact ⟨h1, h2⟩
    · replace h1 := h1.2 z
      replace h2 := h2.2 z
      exact ⟨h1, h2⟩
set_option maxRecDepth 100000 in
def p_2321 (s0 : zF) (a0 : Int) (Q : zF → Prop) : Prop :=
  ∀ x1 : Int, x1 = s0 (386) 8 → 0 ≤ x1 → x1 ≤ 5 → (0 < x1 → Q s0) ∧ (x1 ≤ 0 → ∀ x6 : Int, x6 = s0 (386) 3 → 0 ≤ x6 → x6 ≤ 3 → (¬ x6 = 1 → ∀ x11 : Int, x11 = s0 (386) 4 → 0 ≤ x11 → x11 ≤ 1600 → ∀ g19 : zF, g19 = zup s0 (386) 8 1 → ∀ g24 : zF, g24 = zup g19 (386) 9 x11 → Q g24) ∧ (x6 = 1 → ∀ y29 : Int, y29 = s0 (386) 7 → ∀ x30 : Int, (x30 = -1 ∧ y29 < a0 ∨ x30 = 0 ∧ y29 = a0 ∨ x30 = 1 ∧ a0 < y29) → (¬ x30 = 0 → ∀ x33 : Int, x33 = s0 (386) 4 → 0 ≤ x33 → x33 ≤ 1600 → ∀ g41 : zF, g41 = zup s0 (386) 8 1 → ∀ g46 : zF, g46 = zup g41 (386) 9 x33 → Q g46) ∧ (x30 = 0 → ∃ P50 : zF → Prop, p_2310 s0 P50 ∧ ∀ g53 : zF, zFr [(386, 387, 3), (386, 387, 4), (386, 387, 5), (386, 387, 6), (386, 387, 7), (386, 387, 8), (386, 387, 9)] s0 g53 → P50 g53 → Q g53)))
set_option maxRecDepth 100000 in
theorem cj_2321 {s0 : zF} {a0 : Int} {Q1 Q2 : zF → Prop} (h1 : b_2321 s0 a0 Q1) (h2 : p_2321 s0 a0 Q2) : b_2321 s0 a0 (fun g => Q1 g ∧ Q2 g) := by
  unfold b_2321 at h1 ⊢
  unfold p_2321 at h2
  intro x1 a1_0 a1_1 a1_2
  replace h1 := h1 x1 a1_0 a1_1 a1_2
  replace h2 := h2 x1 a1_0 a1_1 a1_2
  refine ⟨fun z => ?_, fun z => ?_⟩
  · replace h1 := h1.1 z
    replace h2 := h2.1 z
    exact ⟨h1, h2⟩
  · replace h1 := h1.2 z
    replace h2 := h2.2 z
    intro x6 a2_0 a2_1 a2_2
    replace h1 := h1 x6 a2_0 a2_1 a2_2
    replace h2 := h2 x6 a2_0 a2_1 a2_2
    refine ⟨fun z => ?_, fun z => ?_⟩
    · replace h1 := h1.1 z
      replace h2 := h2.1 z
      intro x11 a3_0 a3_1 a3_2 g19 a3_3 g24 a3_4
      replace h1 := h1 x11 a3_0 a3_1 a3_2 g19 a3_3 g24 a3_4
      replace h2 := h2 x11 a3_0 a3_1 a3_2 g19 a3_3 g24 a3_4
      exact ⟨h1, h2⟩
    · replace h1 := h1.2 z
      replace h2 := h2.2 z
      intro y29 a3_0 x30 a3_1
      replace h1 := h1 y29 a3_0 x30 a3_1
      replace h2 := h2 y29 a3_0 x30 a3_1
      refine ⟨fun z => ?_, fun z => ?_⟩
      · replace h1 := h1.1 z
        replace h2 := h2.1 z
        intro x33 a4_0 a4_1 a4_2 g41 a4_3 g46 a4_4
        replace h1 := h1 x33 a4_0 a4_1 a4_2 g41 a4_3 g46 a4_4
        replace h2 := h2 x33 a4_0 a4_1 a4_2 g41 a4_3 g46 a4_4
        exact ⟨h1, h2⟩
      · replace h1 := h1.2 z
        replace h2 := h2.2 z
        obtain ⟨P1, c1, h1⟩ := h1
        obtain ⟨P2, c2, h2⟩ := h2
        refine ⟨fun g => P1 g ∧ P2 g, cj_2310 c1 c2, ?_⟩
        intro g53 a4_0 a4_1
        replace h1 := h1 g53 a4_0 a4_1.1
        replace h2 := h2 g53 a4_0 a4_1.2
        exact ⟨h1, h2⟩
set_option maxRecDepth 100000 in
def p_2322 (s0 : zF) (a0 : Int) (a1 : Int) (Q : Int → zF → Prop) : Prop :=
  ∀ x1 : Int, x1 = s0 (386) 8 → 0 ≤ x1 → x1 ≤ 5 → (0 < x1 → Q 0 s0) ∧ (x1 ≤ 0 → ∀ x6 : Int, x6 = s0 (386) 3 → 0 ≤ x6 → x6 ≤ 3 → (¬ x6 = 2 → ∀ x11 : Int, x11 = s0 (386) 4 → 0 ≤ x11 → x11 ≤ 1600 → ∀ g19 : zF, g19 = zup s0 (386) 8 1 → ∀ g24 : zF, g24 = zup g19 (386) 9 x11 → ∀ x26 : Int, x26 = g24 (386) 6 → Q x26 g24) ∧ (x6 = 2 → ∀ x30 : Int, x30 = s0 (386) 6 → (x30 < a0 → ∀ x35 : Int, x35 = s0 (386) 4 → 0 ≤ x35 → x35 ≤ 1600 → ∀ g43 : zF, g43 = zup s0 (386) 8 4 → ∀ g48 : zF, g48 = zup g43 (386) 9 x35 → Q x30 g48) ∧ (a0 ≤ x30 → (a1 < x30 → ∀ x52 : Int, x52 = s0 (386) 4 → 0 ≤ x52 → x52 ≤ 1600 → ∀ g60 : zF, g60 = zup s0 (386) 8 4 → ∀ g65 : zF, g65 = zup g60 (386) 9 x52 → Q x30 g65) ∧ (x30 ≤ a1 → ∃ P70 : zF → Prop, p_2310 s0 P70 ∧ ∀ g73 : zF, zFr [(386, 387, 3), (386, 387, 4), (386, 387, 5), (386, 387, 6), (386, 387, 7), (386, 387, 8), (386, 387, 9)] s0 g73 → P70 g73 → Q x30 g73))))
set_option maxRecDepth 100000 in
theorem cj_2322 {s0 : zF} {a0 : Int} {a1 : Int} {Q1 Q2 : Int → zF → Prop} (h1 : b_2322 s0 a0 a1 Q1) (h2 : p_2322 s0 a0 a1 Q2) : b_2322 s0 a0 a1 (fun v g => Q1 v g ∧ Q2 v g) := by
  unfold b_2322 at h1 ⊢
  unfold p_2322 at h2
  intro x1 a1_0 a1_1 a1_2
  replace h1 := h1 x1 a1_0 a1_1 a1_2
  replace h2 := h2 x1 a1_0 a1_1 a1_2
  refine ⟨fun z => ?_, fun z => ?_⟩
  · replace h1 := h1.1 z
    replace h2 := h2.1 z
    exact ⟨h1, h2⟩
  · replace h1 := h1.2 z
    replace h2 := h2.2 z
    intro x6 a2_0 a2_1 a2_2
    replace h1 := h1 x6 a2_0 a2_1 a2_2
    replace h2 := h2 x6 a2_0 a2_1 a2_2
    refine ⟨fun z => ?_, fun z => ?_⟩
    · replace h1 := h1.1 z
      replace h2 := h2.1 z
      intro x11 a3_0 a3_1 a3_2 g19 a3_3 g24 a3_4 x26 a3_5
      replace h1 := h1 x11 a3_0 a3_1 a3_2 g19 a3_3 g24 a3_4 x26 a3_5
      replace h2 := h2 x11 a3_0 a3_1 a3_2 g19 a3_3 g24 a3_4 x26 a3_5
      exact ⟨h1, h2⟩
    · replace h1 := h1.2 z
      replace h2 := h2.2 z
      intro x30 a3_0
      replace h1 := h1 x30 a3_0
      replace h2 := h2 x30 a3_0
      refine ⟨fun z => ?_, fun z => ?_⟩
      · replace h1 := h1.1 z
        replace h2 := h2.1 z
        intro x35 a4_0 a4_1 a4_2 g43 a4_3 g48 a4_4
        replace h1 := h1 x35 a4_0 a4_1 a4_2 g43 a4_3 g48 a4_4
        replace h2 := h2 x35 a4_0 a4_1 a4_2 g43 a4_3 g48 a4_4
        exact ⟨h1, h2⟩
      · replace h1 := h1.2 z
        replace h2 := h2.2 z
        refine ⟨fun z => ?_, fun z => ?_⟩
        · replace h1 := h1.1 z
          replace h2 := h2.1 z
          intro x52 a5_0 a5_1 a5_2 g60 a5_3 g65 a5_4
          replace h1 := h1 x52 a5_0 a5_1 a5_2 g60 a5_3 g65 a5_4
          replace h2 := h2 x52 a5_0 a5_1 a5_2 g60 a5_3 g65 a5_4
          exact ⟨h1, h2⟩
        · replace h1 := h1.2 z
          replace h2 := h2.2 z
          obtain ⟨P1, c1, h1⟩ := h1
          obtain ⟨P2, c2, h2⟩ := h2
          refine ⟨fun g => P1 g ∧ P2 g, cj_2310 c1 c2, ?_⟩
          intro g73 a5_0 a5_1
          replace h1 := h1 g73 a5_0 a5_1.1
          replace h2 := h2 g73 a5_0 a5_1.2
          exact ⟨h1, h2⟩
set_option maxRecDepth 100000 in
def p_2340 (s0 : zF) (a0 : Int) (Q : zF → Prop) : Prop :=
  ∀ x1 : Int, x1 = s0 (386) 3 → 0 ≤ x1 → x1 ≤ 3 → (¬ x1 = 3 → ∀ x6 : Int, x6 = s0 (386) 4 → 0 ≤ x6 → x6 ≤ 1600 → ∀ x10 : Int, x10 = s0 (386) 8 → 0 ≤ x10 → x10 ≤ 5 → (0 < x10 → Q s0) ∧ (x10 ≤ 0 → ∀ g19 : zF, g19 = zup s0 (386) 8 1 → ∀ g24 : zF, g24 = zup g19 (386) 9 x6 → Q g24)) ∧ (x1 = 3 → ∀ x26 : Int, x26 = s0 (386) 6 → (¬ x26 = a0 → ∀ x31 : Int, x31 = s0 (386) 4 → 0 ≤ x31 → x31 ≤ 1600 → ∀ x35 : Int, x35 = s0 (386) 8 → 0 ≤ x35 → x35 ≤ 5 → (0 < x35 → Q s0) ∧ (x35 ≤ 0 → ∀ g44 : zF, g44 = zup s0 (386) 8 1 → ∀ g49 : zF, g49 = zup g44 (386) 9 x31 → Q g49)) ∧ (x26 = a0 → ∀ x51 : Int, x51 = s0 (386) 8 → 0 ≤ x51 → x51 ≤ 5 → (¬ x51 = 0 → Q s0) ∧ (x51 = 0 → ∃ P58 : zF → Prop, p_2310 s0 P58 ∧ ∀ g61 : zF, zFr [(386, 387, 3), (386, 387, 4), (386, 387, 5), (386, 387, 6), (386, 387, 7), (386, 387, 8), (386, 387, 9)] s0 g61 → P58 g61 → Q g61)))
set_option maxRecDepth 100000 in
theorem cj_2340 {s0 : zF} {a0 : Int} {Q1 Q2 : zF → Prop} (h1 : b_2340 s0 a0 Q1) (h2 : p_2340 s0 a0 Q2) : b_2340 s0 a0 (fun g => Q1 g ∧ Q2 g) := by
  unfold b_2340 at h1 ⊢
  unfold p_2340 at h2
  intro x1 a1_0 a1_1 a1_2
  replace h1 := h1 x1 a1_0 a1_1 a1_2
  replace h2 := h2 x1 a1_0 a1_1 a1_2
  refine ⟨fun z => ?_, fun z => ?_⟩
  · replace h1 := h1.1 z
    replace h2 := h2.1 z
    intro x6 a2_0 a2_1 a2_2 x10 a2_3 a2_4 a2_5
    replace h1 := h1 x6 a2_0 a2_1 a2_2 x10 a2_3 a2_4 a2_5
    replace h2 := h2 x6 a2_0 a2_1 a2_2 x10 a2_3 a2_4 a2_5
    refine ⟨fun z => ?_, fun z => ?_⟩
    · replace h1 := h1.1 z
      replace h2 := h2.1 z
      exact ⟨h1, h2⟩
    · replace h1 := h1.2 z
      replace h2 := h2.2 z
      intro g19 a3_0 g24 a3_1
      replace h1 := h1 g19 a3_0 g24 a3_1
      replace h2 := h2 g19 a3_0 g24 a3_1
      exact ⟨h1, h2⟩
  · replace h1 := h1.2 z
    replace h2 := h2.2 z
    intro x26 a2_0
    replace h1 := h1 x26 a2_0
    replace h2 := h2 x26 a2_0
    refine ⟨fun z => ?_, fun z => ?_⟩
    · replace h1 := h1.1 z
      replace h2 := h2.1 z
      intro x31 a3_0 a3_1 a3_2 x35 a3_3 a3_4 a3_5
      replace h1 := h1 x31 a3_0 a3_1 a3_2 x35 a3_3 a3_4 a3_5
      replace h2 := h2 x31 a3_0 a3_1 a3_2 x35 a3_3 a3_4 a3_5
      refine ⟨fun z => ?_, fun z => ?_⟩
      · replace h1 := h1.1 z
        replace h2 := h2.1 z
        exact ⟨h1, h2⟩
      · replace h1 := h1.2 z
        replace h2 := h2.2 z
        intro g44 a4_0 g49 a4_1
        replace h1 := h1 g44 a4_0 g49 a4_1
        replace h2 := h2 g44 a4_0 g49 a4_1
        exact ⟨h1, h2⟩
    · replace h1 := h1.2 z
      replace h2 := h2.2 z
      intro x51 a3_0 a3_1 a3_2
      replace h1 := h1 x51 a3_0 a3_1 a3_2
      replace h2 := h2 x51 a3_0 a3_1 a3_2
      refine ⟨fun z => ?_, fun z => ?_⟩
      · replace h1 := h1.1 z
        replace h2 := h2.1 z
        exact ⟨h1, h2⟩
      · replace h1 := h1.2 z
        replace h2 := h2.2 z
        obtain ⟨P1, c1, h1⟩ := h1
        obtain ⟨P2, c2, h2⟩ := h2
        refine ⟨fun g => P1 g ∧ P2 g, cj_2310 c1 c2, ?_⟩
        intro g61 a4_0 a4_1
        replace h1 := h1 g61 a4_0 a4_1.1
        replace h2 := h2 g61 a4_0 a4_1.2
        exact ⟨h1, h2⟩
set_option maxRecDepth 100000 in
def p_2318 (s0 : zF) (Q : Int → zF → Prop) : Prop :=
  ∀ x1 : Int, x1 = s0 (386) 8 → 0 ≤ x1 → x1 ≤ 5 → (0 < x1 → Q 0 s0) ∧ (x1 ≤ 0 → ∀ x6 : Int, x6 = s0 (386) 3 → 0 ≤ x6 → x6 ≤ 3 → (¬ x6 = 1 → ∀ x11 : Int, x11 = s0 (386) 4 → 0 ≤ x11 → x11 ≤ 1600 → ∀ g19 : zF, g19 = zup s0 (386) 8 1 → ∀ g24 : zF, g24 = zup g19 (386) 9 x11 → ∀ y29 : Int, y29 = g24 (386) 7 → Q y29 g24) ∧ (x6 = 1 → ∀ y33 : Int, y33 = s0 (386) 7 → ∃ P36 : Int → zF → Prop, p_2319 s0 y33 P36 ∧ ∀ x39 : Int, 0 ≤ x39 → x39 ≤ 1 → ∀ g42 : zF, zFr [] s0 g42 → P36 x39 g42 → (¬ x39 = 0 → ∀ x45 : Int, x45 = g42 (386) 4 → 0 ≤ x45 → x45 ≤ 1600 → ∀ g54 : zF, g54 = zup g42 (386) 8 1 → ∀ g59 : zF, g59 = zup g54 (386) 9 x45 → Q y33 g59) ∧ (x39 = 0 → ∃ P66 : Int → zF → Prop, p_2320 g42 y33 P66 ∧ ∀ x69 : Int, 0 ≤ x69 → x69 ≤ 1 → ∀ g72 : zF, zFr [] g42 g72 → P66 x69 g72 → (¬ x69 = 0 → ∀ x75 : Int, x75 = g72 (386) 4 → 0 ≤ x75 → x75 ≤ 1600 → ∀ g84 : zF, g84 = zup g72 (386) 8 2 → ∀ g89 : zF, g89 = zup g84 (386) 9 x75 → Q y33 g89) ∧ (x69 = 0 → ∃ P96 : zF → Prop, p_2310 g72 P96 ∧ ∀ g99 : zF, zFr [(386, 387, 3), (386, 387, 4), (386, 387, 5), (386, 387, 6), (386, 387, 7), (386, 387, 8), (386, 387, 9)] g72 g99 → P96 g99 → Q y33 g99))))
set_option maxRecDepth 100000 in
theorem cj_2318 {s0 : zF} {Q1 Q2 : Int → zF → Prop} (h1 : b_2318 s0 Q1) (h2 : p_2318 s0 Q2) : b_2318 s0 (fun v g => Q1 v g ∧ Q2 v g) := by
  unfold b_2318 at h1 ⊢
  unfold p_2318 at h2
  intro x1 a1_0 a1_1 a1_2
  replace h1 := h1 x1 a1_0 a1_1 a1_2
  replace h2 := h2 x1 a1_0 a1_1 a1_2
  refine ⟨fun z => ?_, fun z => ?_⟩
  · replace h1 := h1.1 z
    replace h2 := h2.1 z
    exact ⟨h1, h2⟩
  · replace h1 := h1.2 z
    replace h2 := h2.2 z
    intro x6 a2_0 a2_1 a2_2
    replace h1 := h1 x6 a2_0 a2_1 a2_2
    replace h2 := h2 x6 a2_0 a2_1 a2_2
    refine ⟨fun z => ?_, fun z => ?_⟩
    · replace h1 := h1.1 z
      replace h2 := h2.1 z
      intro x11 a3_0 a3_1 a3_2 g19 a3_3 g24 a3_4 y29 a3_5
      replace h1 := h1 x11 a3_0 a3_1 a3_2 g19 a3_3 g24 a3_4 y29 a3_5
      replace h2 := h2 x11 a3_0 a3_1 a3_2 g19 a3_3 g24 a3_4 y29 a3_5
      exact ⟨h1, h2⟩
    · replace h1 := h1.2 z
      replace h2 := h2.2 z
      intro y33 a3_0
      replace h1 := h1 y33 a3_0
      replace h2 := h2 y33 a3_0
      obtain ⟨P1, c1, h1⟩ := h1
      obtain ⟨P2, c2, h2⟩ := h2
      refine ⟨fun v g => P1 v g ∧ P2 v g, cj_2319 c1 c2, ?_⟩
      intro x39 a3_0 a3_1 g42 a3_2 a3_3
      replace h1 := h1 x39 a3_0 a3_1 g42 a3_2 a3_3.1
      replace h2 := h2 x39 a3_0 a3_1 g42 a3_2 a3_3.2
      refine ⟨fun z => ?_, fun z => ?_⟩
      · replace h1 := h1.1 z
        replace h2 := h2.1 z
        intro x45 a4_0 a4_1 a4_2 g54 a4_3 g59 a4_4
        replace h1 := h1 x45 a4_0 a4_1 a4_2 g54 a4_3 g59 a4_4
        replace h2 := h2 x45 a4_0 a4_1 a4_2 g54 a4_3 g59 a4_4
        exact ⟨h1, h2⟩
      · replace h1 := h1.2 z
        replace h2 := h2.2 z
        obtain ⟨P1, c1, h1⟩ := h1
        obtain ⟨P2, c2, h2⟩ := h2
        refine ⟨fun v g => P1 v g ∧ P2 v g, cj_2320 c1 c2, ?_⟩
        intro x69 a4_0 a4_1 g72 a4_2 a4_3
        replace h1 := h1 x69 a4_0 a4_1 g72 a4_2 a4_3.1
        replace h2 := h2 x69 a4_0 a4_1 g72 a4_2 a4_3.2
        refine ⟨fun z => ?_, fun z => ?_⟩
        · replace h1 := h1.1 z
          replace h2 := h2.1 z
          intro x75 a5_0 a5_1 a5_2 g84 a5_3 g89 a5_4
          replace h1 := h1 x75 a5_0 a5_1 a5_2 g84 a5_3 g89 a5_4
          replace h2 := h2 x75 a5_0 a5_1 a5_2 g84 a5_3 g89 a5_4
          exact ⟨h1, h2⟩
        · replace h1 := h1.2 z
          replace h2 := h2.2 z
          obtain ⟨P1, c1, h1⟩ := h1
          obtain ⟨P2, c2, h2⟩ := h2
          refine ⟨fun g => P1 g ∧ P2 g, cj_2310 c1 c2, ?_⟩
          intro g99 a5_0 a5_1
          replace h1 := h1 g99 a5_0 a5_1.1
          replace h2 := h2 g99 a5_0 a5_1.2
          exact ⟨h1, h2⟩
set_option maxRecDepth 100000 in
def p_2324 (s0 : zF) (a0 : Int) (Q : zF → Prop) : Prop :=
  ∃ (I7 : zF → Int → Prop) (I67 : zF → Int → Int → Prop),
    ((0 ≤ a0 ∧ a0 ≤ 23) → ∀ g131 : zF, g131 = zup s0 (394) a0.toNat 0 → I7 g131 a0) ∧
    (∀ (g : zF) (v7_1 : Int), zFr [(394, 395, 1000), (386, 387, 3), (386, 387, 4), (386, 387, 5), (386, 387, 6), (386, 387, 7), (386, 387, 8), (386, 387, 9)] s0 g → 0 ≤ v7_1 → v7_1 ≤ 23 → I7 g v7_1 → ∀ x1 : Int, x1 = g (386) 8 → 0 ≤ x1 → x1 ≤ 5 → (¬ x1 = 0 → Q g) ∧ (x1 = 0 → ∀ x6 : Int, x6 = g (386) 3 → 0 ≤ x6 → x6 ≤ 3 → (¬ x6 = 1 → Q g) ∧ (x6 = 1 → ∀ y14 : Int, y14 = g (386) 7 → ∀ x15 : Int, (x15 = -1 ∧ y14 < 126918153364851 ∨ x15 = 0 ∧ y14 = 126918153364851 ∨ x15 = 1 ∧ 126918153364851 < y14) → (¬ x15 = 0 → ∀ x18 : Int, (x18 = -1 ∧ y14 < 444133766004 ∨ x18 = 0 ∧ y14 = 444133766004 ∨ x18 = 1 ∧ 444133766004 < y14) → (¬ x18 = 0 → I67 g v7_1 0) ∧ (x18 = 0 → ∀ x24 : Int, x24 = g (394) v7_1.toNat → 0 ≤ x24 → x24 ≤ 3 → ∀ x26 : Int, x26 = zxand x24 2 → 0 ≤ x26 → x26 ≤ 2 → (¬ x26 = 0 → I67 g v7_1 2) ∧ (x26 = 0 → ∀ x34 : Int, x34 = zxor x24 2 → 0 ≤ x34 → x34 ≤ 3 → ∀ g41 : zF, g41 = zup g (394) v7_1.toNat x34 → ∃ P45 : zF → Prop, p_2310 g41 P45 ∧ ∀ g48 : zF, zFr [(386, 387, 3), (386, 387, 4), (386, 387, 5), (386, 387, 6), (386, 387, 7), (386, 387, 8), (386, 387, 9)] g41 g48 → P45 g48 → I7 g48 v7_1))) ∧ (x15 = 0 → ∀ x53 : Int, x53 = g (394) v7_1.toNat → 0 ≤ x53 → x53 ≤ 3 → ∀ x55 : Int, x55 = zxand x53 1 → 0 ≤ x55 → x55 ≤ 1 → (¬ x55 = 0 → I67 g v7_1 1) ∧ (x55 = 0 → ∀ x63 : Int, x63 = zxor x53 1 → 0 ≤ x63 → x63 ≤ 3 → ∀ g70 : zF, g70 = zup g (394) v7_1.toNat x63 → ∃ P74 : zF → Prop, p_2310 g70 P74 ∧ ∀ g77 : zF, zFr [(386, 387, 3), (386, 387, 4), (386, 387, 5), (386, 387, 6), (386, 387, 7), (386, 387, 8), (386, 387, 9)] g70 g77 → P74 g77 → I7 g77 v7_1))))) ∧
    (∀ (g : zF) (v67_1 : Int) (v67_2 : Int), zFr [(394, 395, 1000), (386, 387, 3), (386, 387, 4), (386, 387, 5), (386, 387, 6), (386, 387, 7), (386, 387, 8), (386, 387, 9)] s0 g → 0 ≤ v67_1 → v67_1 ≤ 23 → 0 ≤ v67_2 → v67_2 ≤ 2 → I67 g v67_1 v67_2 → ∀ x79 : Int, x79 = g (386) 4 → 0 ≤ x79 → x79 ≤ 1600 → ∀ x83 : Int, x83 = g (386) 8 → 0 ≤ x83 → x83 ≤ 5 → (0 < x83 → ∀ x91 : Int, x91 = g (394) v67_1.toNat → 0 ≤ x91 → x91 ≤ 3 → ∀ x93 : Int, x93 = zxor x91 v67_2 → 0 ≤ x93 → x93 ≤ 3 → ∀ g100 : zF, g100 = zup g (394) v67_1.toNat x93 → I7 g100 v67_1) ∧ (x83 ≤ 0 → ∀ g106 : zF, g106 = zup g (386) 8 1 → ∀ g111 : zF, g111 = zup g106 (386) 9 x79 → ∀ x115 : Int, x115 = g111 (394) v67_1.toNat → 0 ≤ x115 → x115 ≤ 3 → ∀ x117 : Int, x117 = zxor x115 v67_2 → 0 ≤ x117 → x117 ≤ 3 → ∀ g124 : zF, g124 = zup g111 (394) v67_1.toNat x117 → I7 g124 v67_1))
set_option maxRecDepth 100000 in
theorem cj_2324 {s0 : zF} {a0 : Int} {Q1 Q2 : zF → Prop} (h1 : b_2324 s0 a0 Q1) (h2 : p_2324 s0 a0 Q2) : b_2324 s0 a0 (fun g => Q1 g ∧ Q2 g) := by
  obtain ⟨I7, I67, h1E, h1_0, h1_1⟩ := h1
  obtain ⟨J7, J67, h2E, h2_0, h2_1⟩ := h2
  refine ⟨fun n g y0 => I7 n g y0 ∧ J7 g y0, fun n g y0 y1 => I67 n g y0 y1 ∧ J67 g y0 y1, ?_, ?_, ?_⟩
  · have h1 := h1E
    have h2 := h2E
    clear h1E h2E h1_0 h2_0 h1_1 h2_1
    refine ⟨h1.1, ?_⟩
    replace h2 := h2 h1.1
    replace h1 := h1.2
    intro g131 a2_0
    replace h1 := h1 g131 a2_0
    replace h2 := h2 g131 a2_0
    obtain ⟨m, hi⟩ := h1
    exact ⟨m, hi, h2⟩
  · intro n g v7_1 e0 e1 e2 hI
    have h1 := h1_0 n g v7_1 e0 e1 e2 hI.1
    have h2 := h2_0 g v7_1 e0 e1 e2 hI.2
    clear h1E h2E hI h1_0 h2_0 h1_1 h2_1
    intro x1 a2_0 a2_1 a2_2
    replace h1 := h1 x1 a2_0 a2_1 a2_2
    replace h2 := h2 x1 a2_0 a2_1 a2_2
    refine ⟨fun z => ?_, fun z => ?_⟩
    · replace h1 := h1.1 z
      replace h2 := h2.1 z
      exact ⟨h1, h2⟩
    · replace h1 := h1.2 z
      replace h2 := h2.2 z
      intro x6 a3_0 a3_1 a3_2
      replace h1 := h1 x6 a3_0 a3_1 a3_2
      replace h2 := h2 x6 a3_0 a3_1 a3_2
      refine ⟨fun z => ?_, fun z => ?_⟩
      · replace h1 := h1.1 z
        replace h2 := h2.1 z
        exact ⟨h1, h2⟩
      · replace h1 := h1.2 z
        replace h2 := h2.2 z
        intro y14 a4_0 x15 a4_1
        replace h1 := h1 y14 a4_0 x15 a4_1
        replace h2 := h2 y14 a4_0 x15 a4_1
        refine ⟨fun z => ?_, fun z => ?_⟩
        · replace h1 := h1.1 z
          replace h2 := h2.1 z
          intro x18 a5_0
          replace h1 := h1 x18 a5_0
          replace h2 := h2 x18 a5_0
          refine ⟨fun z => ?_, fun z => ?_⟩
          · replace h1 := h1.1 z
            replace h2 := h2.1 z
            obtain ⟨m, hm, hi⟩ := h1
            exact ⟨m, hm, hi, h2⟩
          · replace h1 := h1.2 z
            replace h2 := h2.2 z
            intro x24 a6_0 a6_1 a6_2 x26 a6_3 a6_4 a6_5
            replace h1 := h1 x24 a6_0 a6_1 a6_2 x26 a6_3 a6_4 a6_5
            replace h2 := h2 x24 a6_0 a6_1 a6_2 x26 a6_3 a6_4 a6_5
            refine ⟨fun z => ?_, fun z => ?_⟩
            · replace h1 := h1.1 z
              replace h2 := h2.1 z
              obtain ⟨m, hm, hi⟩ := h1
              exact ⟨m, hm, hi, h2⟩
            · replace h1 := h1.2 z
              replace h2 := h2.2 z
              intro x34 a7_0 a7_1 a7_2 g41 a7_3
              replace h1 := h1 x34 a7_0 a7_1 a7_2 g41 a7_3
              replace h2 := h2 x34 a7_0 a7_1 a7_2 g41 a7_3
              obtain ⟨P1, c1, h1⟩ := h1
              obtain ⟨P2, c2, h2⟩ := h2
              refine ⟨fun g => P1 g ∧ P2 g, cj_2310 c1 c2, ?_⟩
              intro g48 a7_0 a7_1
              replace h1 := h1 g48 a7_0 a7_1.1
              replace h2 := h2 g48 a7_0 a7_1.2
              obtain ⟨m, hm, hi⟩ := h1
              exact ⟨m, hm, hi, h2⟩
        · replace h1 := h1.2 z
          replace h2 := h2.2 z
          intro x53 a5_0 a5_1 a5_2 x55 a5_3 a5_4 a5_5
          replace h1 := h1 x53 a5_0 a5_1 a5_2 x55 a5_3 a5_4 a5_5
          replace h2 := h2 x53 a5_0 a5_1 a5_2 x55 a5_3 a5_4 a5_5
          refine ⟨fun z => ?_, fun z => ?_⟩
          · replace h1 := h1.1 z
            replace h2 := h2.1 z
            obtain ⟨m, hm, hi⟩ := h1
            exact ⟨m, hm, hi, h2⟩
          · replace h1 := h1.2 z
            replace h2 := h2.2 z
            intro x63 a6_0 a6_1 a6_2 g70 a6_3
            replace h1 := h1 x63 a6_0 a6_1 a6_2 g70 a6_3
            replace h2 := h2 x63 a6_0 a6_1 a6_2 g70 a6_3
            obtain ⟨P1, c1, h1⟩ := h1
            obtain ⟨P2, c2, h2⟩ := h2
            refine ⟨fun g => P1 g ∧ P2 g, cj_2310 c1 c2, ?_⟩
            intro g77 a6_0 a6_1
            replace h1 := h1 g77 a6_0 a6_1.1
            replace h2 := h2 g77 a6_0 a6_1.2
            obtain ⟨m, hm, hi⟩ := h1
            exact ⟨m, hm, hi, h2⟩
  · intro n g v67_1 v67_2 e0 e1 e2 e3 e4 hI
    have h1 := h1_1 n g v67_1 v67_2 e0 e1 e2 e3 e4 hI.1
    have h2 := h2_1 g v67_1 v67_2 e0 e1 e2 e3 e4 hI.2
    clear h1E h2E hI h1_0 h2_0 h1_1 h2_1
    intro x79 a2_0 a2_1 a2_2 x83 a2_3 a2_4 a2_5
    replace h1 := h1 x79 a2_0 a2_1 a2_2 x83 a2_3 a2_4 a2_5
    replace h2 := h2 x79 a2_0 a2_1 a2_2 x83 a2_3 a2_4 a2_5
    refine ⟨fun z => ?_, fun z => ?_⟩
    · replace h1 := h1.1 z
      replace h2 := h2.1 z
      intro x91 a3_0 a3_1 a3_2 x93 a3_3 a3_4 a3_5 g100 a3_6
      replace h1 := h1 x91 a3_0 a3_1 a3_2 x93 a3_3 a3_4 a3_5 g100 a3_6
      replace h2 := h2 x91 a3_0 a3_1 a3_2 x93 a3_3 a3_4 a3_5 g100 a3_6
      obtain ⟨m, hm, hi⟩ := h1
      exact ⟨m, hm, hi, h2⟩
    · replace h1 := h1.2 z
      replace h2 := h2.2 z
      intro g106 a3_0 g111 a3_1 x115 a3_2 a3_3 a3_4 x117 a3_5 a3_6 a3_7 g124 a3_8
      replace h1 := h1 g106 a3_0 g111 a3_1 x115 a3_2 a3_3 a3_4 x117 a3_5 a3_6 a3_7 g124 a3_8
      replace h2 := h2 g106 a3_0 g111 a3_1 x115 a3_2 a3_3 a3_4 x117 a3_5 a3_6 a3_7 g124 a3_8
      obtain ⟨m, hm, hi⟩ := h1
      exact ⟨m, hm, hi, h2⟩
