/-! the cutting of a text, step by step -/
theorem kof_set (c : Int) : kof c = 0 ∨ kof c = 1 ∨ kof c = 2 ∨ kof c = 4 ∨ kof c = 5 := by
  unfold kof
  split
  · omega
  · split
    · omega
    · split
      · omega
      · split <;> omega
theorem mxl_2 : mxl 2 = 6 := rfl
theorem mxl_4 : mxl 4 = 4 := rfl
theorem mxl_b (r : Int) : mxl r ≤ 6 := by
  unfold mxl
  split <;> omega
theorem SI.opn {T : Nat → Int} {L : Nat} {K V S : Nat → Int} {c p : Nat} {r z : Int} (h : SI T L K V S c p r z) (hr : run r) : 1 ≤ c ∧ K (c - 1) = r ∧ z ≤ 6 ∧ (r = 4 → z ≤ 3 → 0 ≤ V (c - 1) ∧ V (c - 1) ≤ 999) := by
  obtain ⟨h0, hL, h | ⟨-, P, d, a, hc, t, t1, t2, t3, t4, t5, t6, t7, t8, t9, t10⟩⟩ := h
  · exfalso
    unfold run at hr
    omega
  · subst hc
    have hm := mxl_b r
    refine ⟨by omega, t9, by omega, fun hr4 hz => ?_⟩
    subst hr4
    have e : V (d + 1 - 1) = nu10 T a (p - a) := t10
    have b := nu10_b (T := T) (a := a) (p - a) (fun k h1 h2 => kof_4 (t8 k h1 (by omega)))
    rw [e]
    have c : p - a = 1 ∨ p - a = 2 ∨ p - a = 3 := by omega
    rcases c with c | c | c <;> rw [c] at b ⊢ <;> omega
theorem SI.letters {T : Nat → Int} {L : Nat} {K V S : Nat → Int} {c p : Nat} {r z : Int} (h : SI T L K V S c p r z) (hr : run r) {a : Nat} (hz : z = (p : Int) - a) : a < p ∧ ∀ k, a ≤ k → k < p → kof (T k) = r := by
  obtain ⟨h0, hL, h | ⟨-, P, d, a', hc, t, t1, t2, t3, t4, t5, t6, t7, t8, t9, t10⟩⟩ := h
  · exfalso
    unfold run at hr
    omega
  · have e : a = a' := by omega
    subst e
    exact ⟨t4, t8⟩
theorem pkr_step {T : Nat → Int} {r w c x z : Int} {a p : Nat} (hr : run r) (hz : z = (p : Int) - a) (hx : x = z + 1) (hc : c = T p) (hk : kof (T p) = r) (hw : w = pkr r T a (p - a)) (hm : z < (mxl r : Int)) (hl : a < p ∧ ∀ k, a ≤ k → k < p → kof (T k) = r) : (if r = 2 then zxor w (zxshl (c - 96) (5 * (x - 1))) else 10 * w + c - 48) = pkr r T a (p + 1 - a) := by
  obtain ⟨hl1, hl2⟩ := hl
  obtain ⟨n, hn⟩ : ∃ n : Nat, p = a + n := ⟨p - a, by omega⟩
  subst hn
  rw [show a + n - a = n by omega] at hw
  rw [show a + n + 1 - a = n + 1 by omega]
  unfold pkr at hw ⊢
  rcases hr with e | e
  · subst e
    rw [if_pos rfl] at hw
    rw [if_pos rfl, if_pos rfl]
    rw [mxl_2] at hm
    have hL := kof_2 hk
    unfold isL at hL
    have hb := pk5_nn (T := T) n a (fun k h1 h2 => kof_2 (hl2 k h1 h2))
    have hb2 := pk5_lt (T := T) n a (fun k h1 h2 => kof_2 (hl2 k h1 h2))
    rw [hw, show 5 * (x - 1) = 5 * (n : Int) by omega, zxor_pk (by omega) hb.1 hb2 (by omega) (by omega), hc]
    rfl
  · subst e
    rw [if_neg (by decide)] at hw
    rw [if_neg (by decide), if_neg (by decide), hw, hc]
    show 10 * nu10 T a n + T (a + n) - 48 = 10 * nu10 T a n + (T (a + n) - 48)
    omega
