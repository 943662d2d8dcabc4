/-! pure proofs (wip/safe/vcp.py) -/
set_option maxHeartbeats 4000000 in
theorem v_2378 {s0 : zF} {a0 : Int} (h : zIa s0) (h0 : 0 ≤ a0) : b_2378 s0 a0 (fun _ => True) := by
  refine ⟨fun n g v2_1 v2_2 => n = (1000 - v2_2).toNat ∧ v2_1 = a0, fun n g v137_1 v137_2 => n = (900 - v137_2).toNat ∧ v137_1 = a0, fun n g v242_1 v242_2 => n = (800 - v242_2).toNat, ?_, ?_, ?_, ?_⟩
  · skip
    exact ⟨_, rfl, rfl⟩
  · intro n g v2_1 v2_2 rg qv2_10 qv2_11 qv2_20 qv2_21 hI
    obtain ⟨hn, hv⟩ := hI
    intro x1 ex1 fx1 gx1
    intro x8 ex8 fx8 gx8
    refine ⟨fun h9 => ?_, fun h9 => ?_⟩
    · skip
      intro x10 ex10
      intro x12 ex12
      intro x17 ex17 fx17 gx17
      intro x18 ex18
      intro x20 ex20
      intro x25 ex25 fx25 gx25
      refine ⟨fun h26 => ?_, fun h26 => ?_⟩
      · skip
        intro g31 eg31
        intro x35 ex35 fx35 gx35
        refine ⟨fun h36 => ?_, fun h36 => ?_⟩
        · skip
          intro x37 ex37
          intro x39 ex39
          intro x44 ex44 fx44 gx44
          refine ⟨fun h45 => ?_, fun h45 => ?_⟩
          · skip
            intro x46 ex46
            exact ⟨_, by omega, rfl, hv⟩
          · skip
            intro x49 ex49
            intro x51 ex51
            intro x56 ex56 fx56 gx56
            intro x57 ex57 fx57
            refine ⟨fun h60 => ?_, fun h60 => ?_⟩
            · skip
              intro x61 ex61
              exact ⟨_, by omega, rfl, hv⟩
            · skip
              intro x63 ex63
              intro x65 ex65
              intro x70 ex70 fx70 gx70
              refine ⟨fun h71 => ?_, fun h71 => ?_⟩
              · skip
                intro x72 ex72
                exact ⟨_, by omega, rfl, hv⟩
              · skip
                intro x77 ex77
                refine ⟨fun _ _ => True, ?_, ?_⟩
                · skip
                  have F0 : zFr [(416, 419, 1000), (420, 429, 1000), (431, 433, 1000), (434, 436, 1000), (386, 387, 66), (386, 387, 70), (386, 387, 71), (386, 387, 72), (386, 387, 74), (386, 387, 75)] s0 g := rg
                  have F1 : zFr [(416, 419, 1000), (420, 429, 1000), (431, 433, 1000), (434, 436, 1000), (386, 387, 66), (386, 387, 70), (386, 387, 71), (386, 387, 72), (386, 387, 74), (386, 387, 75)] s0 g31 := by
                    rw [eg31]
                    exact zFr_za F0 (by decide)
                  have E419 : g31 419 = g 419 := (F1.a (by decide)).trans (F0.a (by decide)).symm
                  have E388 : g31 388 = g 388 := (F1.a (by decide)).trans (F0.a (by decide)).symm
                  have E12 : g31 386 12 = g 386 12 := (F1.s (by decide)).trans (F0.s (by decide)).symm
                  refine v_2380 (zIa_fr h F1 rfl) (by omega) ⟨v2_2.toNat, ?_, ?_⟩
                  · rw [E388, E12, ← ex1, ← ex8]
                    omega
                  · rw [E419, show 12 * v2_1.toNat + v2_2.toNat = x12.toNat by omega]
                    exact ex17.symm
                · skip
                  intro x86 g89 rg89 qg89
                  intro x91 ex91
                  exact ⟨_, by omega, rfl, hv⟩
        · skip
          intro x93 ex93
          intro x95 ex95
          intro x100 ex100 fx100 gx100
          refine ⟨fun h101 => ?_, fun h101 => ?_⟩
          · skip
            intro x102 ex102
            exact ⟨_, by omega, rfl, hv⟩
          · skip
            intro x105 ex105
            intro x107 ex107
            intro x112 ex112 fx112 gx112
            intro x113 ex113 fx113
            refine ⟨fun h116 => ?_, fun h116 => ?_⟩
            · skip
              intro x117 ex117
              exact ⟨_, by omega, rfl, hv⟩
            · skip
              intro x119 ex119
              intro x121 ex121
              intro x126 ex126 fx126 gx126
              refine ⟨fun h127 => ?_, fun h127 => ?_⟩
              · skip
                intro x128 ex128
                exact ⟨_, by omega, rfl, hv⟩
              · skip
                intro x133 ex133
                refine ⟨fun _ _ => True, ?_, ?_⟩
                · skip
                  have F0 : zFr [(416, 419, 1000), (420, 429, 1000), (431, 433, 1000), (434, 436, 1000), (386, 387, 66), (386, 387, 70), (386, 387, 71), (386, 387, 72), (386, 387, 74), (386, 387, 75)] s0 g := rg
                  have F1 : zFr [(416, 419, 1000), (420, 429, 1000), (431, 433, 1000), (434, 436, 1000), (386, 387, 66), (386, 387, 70), (386, 387, 71), (386, 387, 72), (386, 387, 74), (386, 387, 75)] s0 g31 := by
                    rw [eg31]
                    exact zFr_za F0 (by decide)
                  have E419 : g31 419 = g 419 := (F1.a (by decide)).trans (F0.a (by decide)).symm
                  have E388 : g31 388 = g 388 := (F1.a (by decide)).trans (F0.a (by decide)).symm
                  have E12 : g31 386 12 = g 386 12 := (F1.s (by decide)).trans (F0.s (by decide)).symm
                  refine v_2380 (zIa_fr h F1 rfl) (by omega) ⟨v2_2.toNat, ?_, ?_⟩
                  · rw [E388, E12, ← ex1, ← ex8]
                    omega
                  · rw [E419, show 12 * v2_1.toNat + v2_2.toNat = x12.toNat by omega]
                    exact ex17.symm
                · skip
                  intro x139 g142 rg142 qg142
                  intro x144 ex144
                  exact ⟨_, by omega, rfl, hv⟩
      · skip
        intro x146 ex146
        exact ⟨_, by omega, rfl, hv⟩
    · skip
      exact ⟨_, by omega, rfl, hv⟩
  · intro n g v137_1 v137_2 rg qv137_10 qv137_11 qv137_20 qv137_21 hI
    obtain ⟨hn, hv⟩ := hI
    intro x148 ex148 fx148 gx148
    intro x155 ex155 fx155 gx155
    refine ⟨fun h156 => ?_, fun h156 => ?_⟩
    · skip
      intro x157 ex157
      intro x159 ex159
      intro x164 ex164 fx164 gx164
      intro x165 ex165
      intro x167 ex167
      intro x172 ex172 fx172 gx172
      refine ⟨fun h173 => ?_, fun h173 => ?_⟩
      · skip
        intro x174 ex174
        exact ⟨_, by omega, rfl, hv⟩
      · skip
        intro x176 ex176
        intro x178 ex178
        intro x183 ex183 fx183 gx183
        intro x184 ex184 fx184
        refine ⟨fun h187 => ?_, fun h187 => ?_⟩
        · skip
          intro x188 ex188
          exact ⟨_, by omega, rfl, hv⟩
        · skip
          intro x190 ex190
          intro x192 ex192
          intro x197 ex197 fx197 gx197
          refine ⟨fun h198 => ?_, fun h198 => ?_⟩
          · skip
            intro x199 ex199
            exact ⟨_, by omega, rfl, hv⟩
          · skip
            intro x204 hx2041 g207 rg207 
            intro lx204
            intro x211 ex211
            intro x213 ex213
            intro x218 ex218
            refine ⟨fun h219 => ?_, fun h219 => ?_⟩
            · skip
              intro x223 ex223 fx223 gx223
              refine ⟨fun h224 => ?_, fun h224 => ?_⟩
              · skip
                refine ⟨fun _ _ => True, ?_, ?_⟩
                · skip
                  have F0 : zFr [(416, 419, 1000), (420, 429, 1000), (431, 433, 1000), (434, 436, 1000), (386, 387, 66), (386, 387, 70), (386, 387, 71), (386, 387, 72), (386, 387, 74), (386, 387, 75)] s0 g := rg
                  have F1 : zFr [(416, 419, 1000), (420, 429, 1000), (431, 433, 1000), (434, 436, 1000), (386, 387, 66), (386, 387, 70), (386, 387, 71), (386, 387, 72), (386, 387, 74), (386, 387, 75)] s0 g207 := F0.trans (rg207.mono (by decide))
                  have E12 : g207 386 12 = g 386 12 := (F1.s (by decide)).trans (F0.s (by decide)).symm
                  refine v_2389 (zIa_fr h F1 rfl) ?_
                  rw [E12, ← ex148, ← ex223]
                  omega
                · skip
                  intro x230 hx2301 hx2302 g233 rg233 qg233
                  intro x238 ex238
                  refine ⟨fun _ _ => True, ?_, ?_⟩
                  · skip
                    have F0 : zFr [(416, 419, 1000), (420, 429, 1000), (431, 433, 1000), (434, 436, 1000), (386, 387, 66), (386, 387, 70), (386, 387, 71), (386, 387, 72), (386, 387, 74), (386, 387, 75)] s0 g := rg
                    have F1 : zFr [(416, 419, 1000), (420, 429, 1000), (431, 433, 1000), (434, 436, 1000), (386, 387, 66), (386, 387, 70), (386, 387, 71), (386, 387, 72), (386, 387, 74), (386, 387, 75)] s0 g207 := F0.trans (rg207.mono (by decide))
                    have F2 : zFr [(416, 419, 1000), (420, 429, 1000), (431, 433, 1000), (434, 436, 1000), (386, 387, 66), (386, 387, 70), (386, 387, 71), (386, 387, 72), (386, 387, 74), (386, 387, 75)] s0 g233 := F1.trans (rg233.mono (by decide))
                    have E419 : g233 419 = g 419 := (F2.a (by decide)).trans (F0.a (by decide)).symm
                    have E388 : g233 388 = g 388 := (F2.a (by decide)).trans (F0.a (by decide)).symm
                    have E12 : g233 386 12 = g 386 12 := (F2.s (by decide)).trans (F0.s (by decide)).symm
                    refine v_2380 (zIa_fr h F2 rfl) (by omega) ⟨v137_2.toNat, ?_, ?_⟩
                    · rw [E388, E12, ← ex148, ← ex155]
                      omega
                    · rw [E419, show 12 * v137_1.toNat + v137_2.toNat = x159.toNat by omega]
                      exact ex164.symm
                  · skip
                    intro x244 g247 rg247 qg247
                    intro x249 ex249
                    exact ⟨_, by omega, rfl, hv⟩
              · skip
                intro x251 ex251
                exact ⟨_, by omega, rfl, hv⟩
            · skip
              intro x253 ex253
              exact ⟨_, by omega, rfl, hv⟩
    · skip
      exact ⟨_, by omega, rfl⟩
  · intro n g v242_1 v242_2 rg qv242_10 qv242_11 qv242_20 qv242_21 hI
    have hn := hI
    intro x255 ex255 fx255 gx255
    intro x262 ex262 fx262 gx262
    refine ⟨fun h263 => ?_, fun h263 => ?_⟩
    · skip
      intro x264 ex264
      intro x266 ex266
      intro x271 ex271 fx271 gx271
      refine ⟨fun h272 => ?_, fun h272 => ?_⟩
      · skip
        intro x276 ex276
        intro x277 
        intro g282 eg282
        refine ⟨fun h286 => ?_, fun h286 => ?_⟩
        · skip
          intro x287 ex287
          exact ⟨_, by omega, rfl⟩
        · skip
          intro g293 eg293
          intro x294 ex294
          exact ⟨_, by omega, rfl⟩
      · skip
        intro x296 ex296
        exact ⟨_, by omega, rfl⟩
    · skip
      intro x301 ex301
      intro x302 
      intro g307 eg307
      trivial
