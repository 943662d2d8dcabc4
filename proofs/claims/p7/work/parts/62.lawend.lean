/-! the law's loop, its beginning, its end -/
def zEnd (X : List Int32) (d q : Nat) (M : zM) : Prop := ∃ M', zLX X d (18, zml q, [], M) (some (.int 1), M') ∧ M'.length ≤ 600000 ∧ zsl M' ≤ 7302250
def zcpc (j : Nat) : Nat := if j < 38 then [200, 263, 286, 299, 322, 345, 388, 421, 444, 477, 510, 543, 602, 625, 658, 707, 756, 789, 822, 835, 858, 901, 934, 967, 980, 1003, 1026, 1039, 1062, 1075, 1108, 1141, 1164, 1197, 1240, 1253, 1276, 1289].getD j 0 else 1312
theorem zsw : ∀ j, j < 64 → zbr (.tableswitch 1279 0 37 #[167, 230, 253, 266, 289, 312, 355, 388, 411, 444, 477, 510, 569, 592, 625, 674, 723, 756, 789, 802, 825, 868, 901, 934, 947, 970, 993, 1006, 1029, 1042, 1075, 1108, 1131, 1164, 1207, 1220, 1243, 1256]) 33 167 [.int (nI j)] = some (zcpc j, []) := by decide +kernel
section ZLE
variable {X : List Int32} {d q : Nat} {r : zRes} {M : zM}
theorem zcmp (L a : Nat) (hL : L ≤ 3072) (ha : a ≤ 6144) : (nI L - (Int8.ofInt 6).toInt32 < nI a) ↔ L < a + 6 := by
  have e : (Int8.ofInt 6).toInt32 = nI 6 := by decide
  rw [e, Int32.lt_iff_toInt_lt, pk_sub_toInt (by omega) (by omega), nI_toInt (by omega)]
  omega
theorem zlaw_head {pc' : Nat} (hq : 6 * q ≤ 6144) (hX : X.length ≤ 3072) (hpc : pc' = if X.length < 6 * q + 6 then 1318 else 27) (n : zLX X d (pc', zml q, [], M) r) : zLX X d (18, zml q, [], M) r := by
  refine ZX.lo dl_18 rfl rfl rfl rfl ?_
  refine ZX.lo dl_19 rfl rfl rfl rfl ?_
  refine ZX.sl (x := 0) dl_20 rfl ?_
  refine ZX.pu dl_21 rfl rfl ?_
  refine ZX.pu dl_23 rfl rfl ?_
  refine ZX.br (pc' := if nI X.length - (Int8.ofInt 6).toInt32 < nI (6 * q) then 1318 else 27) (st' := []) dl_24 rfl rfl rfl ?_
  by_cases h : X.length < 6 * q + 6
  · rw [if_pos ((zcmp _ _ hX hq).mpr h)]
    rw [if_pos h] at hpc
    rw [← hpc]
    exact n
  · rw [if_neg (fun z => h ((zcmp _ _ hX hq).mp z))]
    rw [if_neg h] at hpc
    rw [← hpc]
    exact n
theorem zlaw_out (hq : 6 * q ≤ 6144) (hX : X.length ≤ 3072) (h : X.length < 6 * q + 6) (h1 : M.length ≤ 600000) (h2 : zsl M ≤ 7302250) : zEnd X d q M := by
  refine ⟨M, zlaw_head (pc' := 1318) hq hX (by rw [if_pos h]) ?_, h1, h2⟩
  refine ZX.pu dl_1318 rfl rfl ?_
  exact ZX.en dl_1319 rfl
theorem zlaw_back (n : zLX X d (18, zml (q + 1), [], M) r) : zLX X d (1312, zml q, [], M) r := by
  have e : nI (6 * q) + Int32.ofInt 6 = nI (6 * (q + 1)) := by
    rw [show Int32.ofInt 6 = nI 6 from rfl, nI_add]
    congr 1
  refine ZX.lo (ml' := zml (q + 1)) (st' := []) dl_1312 rfl rfl rfl ?_ ?_
  · show (zst (zml q) 3 (.int (nI (6 * q) + Int32.ofInt 6))).map (fun ml' => (3, ml', ([] : List Value))) = some (3, zml (q + 1), [])
    rw [e]
    rfl
  · exact ZX.br dl_1315 rfl rfl rfl n
theorem zsome {kind a : Nat} {M : zM} (h : (zarr M a kind).isSome = true) : ∃ vs, zarr M a kind = some vs := Option.isSome_iff_exists.mp h
/-- one row of the script -/
theorem zlaw_in (hX : X.length ≤ 3072) (hq : 6 * q + 6 ≤ X.length) (hx : (zarr M 0 8).isSome = true) (hdef : zEnd X d (q + 1) M) (hop : ∀ k, k < 38 → ∃ M2, zOpOK X d k (zrow X q) M M2 ∧ zEnd X d (q + 1) M2) : zEnd X d q M := by
  obtain ⟨vx, hx⟩ := zsome hx
  obtain ⟨j, hj, ej⟩ := pk_andE (zrow X q 0) (m := 63) 6 (by decide)
  have key : ∀ {M' : zM}, zLX X d (zcpc j, zml q, [], M) (some (.int 1), M') → zLX X d (18, zml q, [], M) (some (.int 1), M') := by
    intro M' n
    obtain ⟨e1, e2, e3⟩ := zidxA (k := 0) hX hq (by omega)
    refine zlaw_head (pc' := 27) (by omega) hX (by rw [if_neg (by omega)]) ?_
    refine ZX.lo dl_27 rfl rfl rfl rfl ?_
    refine ZX.lo dl_28 rfl rfl rfl rfl ?_
    refine ZX.sr dl_29 rfl (by rw [← Nat.add_zero (6 * q)]; exact e3) ?_
    rw [show (nI (6 * q)).toNatClampNeg = 6 * q + 0 from e2]
    refine ZX.pu dl_30 rfl rfl ?_
    refine ZX.pu dl_32 rfl rfl ?_
    rw [show X.getD (6 * q + 0) 0 &&& (Int8.ofInt 63).toInt32 = nI j from ej]
    exact ZX.br dl_33 rfl rfl (zsw j hj) n
  by_cases h38 : j < 38
  · obtain ⟨M2, ho, M', hn, b1, b2⟩ := hop j h38
    refine ⟨M', key ?_, b1, b2⟩
    have hb := zlaw_back hn
    match j, h38 with
    | 0, _ =>
      obtain ⟨v, w, M1, hv, hs, h1, h2⟩ := ho _ _ _ rfl
      obtain ⟨vm, hm⟩ := zsome hs
      exact zcase_0 hX hq hx hm h1 h2 hb
    | 1, _ =>
      obtain ⟨v, w, M1, hv, hs, h1, h2⟩ := ho _ _ _ rfl
      obtain ⟨vm, hm⟩ := zsome hs
      exact zcase_1 hX hq hx hm h1 h2 hb
    | 2, _ =>
      obtain ⟨v, w, M1, hv, hs, h1, h2⟩ := ho _ _ _ rfl
      obtain ⟨vm, hm⟩ := zsome hs
      exact zcase_2 hX hq hx hm h1 h2 hb
    | 3, _ =>
      obtain ⟨v, w, M1, hv, hs, h1, h2⟩ := ho _ _ _ rfl
      obtain ⟨vm, hm⟩ := zsome hs
      exact zcase_3 hX hq hx hm h1 h2 hb
    | 4, _ =>
      obtain ⟨v, w, M1, hv, hs, h1, h2⟩ := ho _ _ _ rfl
      obtain ⟨vm, hm⟩ := zsome hs
      exact zcase_4 hX hq hx hm h1 h2 hb
    | 5, _ =>
      obtain ⟨v, w, M1, hv, hs, h1, h2⟩ := ho _ _ _ rfl
      obtain ⟨vm, hm⟩ := zsome hs
      rw [hv rfl] at h2
      exact zcase_5 (w := v) hX hq hx hm h1 h2 hb
    | 6, _ =>
      obtain ⟨v, w, M1, hv, hs, h1, h2⟩ := ho _ _ _ rfl
      obtain ⟨vm, hm⟩ := zsome hs
      exact zcase_6 hX hq hx hm h1 h2 hb
    | 7, _ =>
      obtain ⟨v, w, M1, hv, hs, h1, h2⟩ := ho _ _ _ rfl
      obtain ⟨vm, hm⟩ := zsome hs
      exact zcase_7 hX hq hx hm h1 h2 hb
    | 8, _ =>
      obtain ⟨v, w, M1, hv, hs, h1, h2⟩ := ho _ _ _ rfl
      obtain ⟨vm, hm⟩ := zsome hs
      exact zcase_8 hX hq hx hm h1 h2 hb
    | 9, _ =>
      obtain ⟨v, w, M1, hv, hs, h1, h2⟩ := ho _ _ _ rfl
      obtain ⟨vm, hm⟩ := zsome hs
      exact zcase_9 hX hq hx hm h1 h2 hb
    | 10, _ =>
      obtain ⟨v, w, M1, hv, hs, h1, h2⟩ := ho _ _ _ rfl
      obtain ⟨vm, hm⟩ := zsome hs
      exact zcase_10 hX hq hx hm h1 h2 hb
    | 11, _ =>
      obtain ⟨v, w, M1, hv, hs, h1, h2⟩ := ho _ _ _ rfl
      obtain ⟨vm, hm⟩ := zsome hs
      exact zcase_11 hX hq hx hm h1 h2 hb
    | 12, _ =>
      obtain ⟨v, w, M1, hv, hs, h1, h2⟩ := ho _ _ _ rfl
      obtain ⟨vm, hm⟩ := zsome hs
      exact zcase_12 hX hq hx hm h1 h2 hb
    | 13, _ =>
      obtain ⟨v, w, M1, hv, hs, h1, h2⟩ := ho _ _ _ rfl
      obtain ⟨vm, hm⟩ := zsome hs
      exact zcase_13 hX hq hx hm h1 h2 hb
    | 14, _ =>
      obtain ⟨v, w, M1, hv, hs, h1, h2⟩ := ho _ _ _ rfl
      obtain ⟨vm, hm⟩ := zsome hs
      exact zcase_14 hX hq hx hm h1 h2 hb
    | 15, _ =>
      obtain ⟨v, w, M1, hv, hs, h1, h2⟩ := ho _ _ _ rfl
      obtain ⟨vm, hm⟩ := zsome hs
      exact zcase_15 hX hq hx hm h1 h2 hb
    | 16, _ =>
      obtain ⟨v, w, M1, hv, hs, h1, h2⟩ := ho _ _ _ rfl
      obtain ⟨vm, hm⟩ := zsome hs
      exact zcase_16 hX hq hx hm h1 h2 hb
    | 17, _ =>
      obtain ⟨v, w, M1, hv, hs, h1, h2⟩ := ho _ _ _ rfl
      obtain ⟨vm, hm⟩ := zsome hs
      exact zcase_17 hX hq hx hm h1 h2 hb
    | 18, _ =>
      obtain ⟨v, w, M1, hv, hs, h1, h2⟩ := ho _ _ _ rfl
      obtain ⟨vm, hm⟩ := zsome hs
      exact zcase_18 hX hq hx hm h1 h2 hb
    | 19, _ =>
      obtain ⟨v, w, M1, hv, hs, h1, h2⟩ := ho _ _ _ rfl
      obtain ⟨vm, hm⟩ := zsome hs
      exact zcase_19 hX hq hx hm h1 h2 hb
    | 20, _ =>
      obtain ⟨v, w, M1, hv, hs, h1, h2⟩ := ho _ _ _ rfl
      obtain ⟨vm, hm⟩ := zsome hs
      exact zcase_20 hX hq hx hm h1 h2 hb
    | 21, _ =>
      obtain ⟨v, w, M1, hv, hs, h1, h2⟩ := ho _ _ _ rfl
      obtain ⟨vm, hm⟩ := zsome hs
      exact zcase_21 hX hq hx hm h1 h2 hb
    | 22, _ =>
      obtain ⟨v, w, M1, hv, hs, h1, h2⟩ := ho _ _ _ rfl
      obtain ⟨vm, hm⟩ := zsome hs
      exact zcase_22 hX hq hx hm h1 h2 hb
    | 23, _ =>
      obtain ⟨v, w, M1, hv, hs, h1, h2⟩ := ho _ _ _ rfl
      obtain ⟨vm, hm⟩ := zsome hs
      exact zcase_23 hX hq hx hm h1 h2 hb
    | 24, _ =>
      obtain ⟨v, w, M1, hv, hs, h1, h2⟩ := ho _ _ _ rfl
      obtain ⟨vm, hm⟩ := zsome hs
      exact zcase_24 hX hq hx hm h1 h2 hb
    | 25, _ =>
      obtain ⟨v, w, M1, hv, hs, h1, h2⟩ := ho _ _ _ rfl
      obtain ⟨vm, hm⟩ := zsome hs
      exact zcase_25 hX hq hx hm h1 h2 hb
    | 26, _ =>
      obtain ⟨v, w, M1, hv, hs, h1, h2⟩ := ho _ _ _ rfl
      obtain ⟨vm, hm⟩ := zsome hs
      exact zcase_26 hX hq hx hm h1 h2 hb
    | 27, _ =>
      obtain ⟨v, w, M1, hv, hs, h1, h2⟩ := ho _ _ _ rfl
      obtain ⟨vm, hm⟩ := zsome hs
      exact zcase_27 hX hq hx hm h1 h2 hb
    | 28, _ =>
      obtain ⟨v, w, M1, hv, hs, h1, h2⟩ := ho _ _ _ rfl
      obtain ⟨vm, hm⟩ := zsome hs
      exact zcase_28 hX hq hx hm h1 h2 hb
    | 29, _ =>
      obtain ⟨v, w, M1, hv, hs, h1, h2⟩ := ho _ _ _ rfl
      obtain ⟨vm, hm⟩ := zsome hs
      exact zcase_29 hX hq hx hm h1 h2 hb
    | 30, _ =>
      obtain ⟨v, w, M1, hv, hs, h1, h2⟩ := ho _ _ _ rfl
      obtain ⟨vm, hm⟩ := zsome hs
      exact zcase_30 hX hq hx hm h1 h2 hb
    | 31, _ =>
      obtain ⟨v, w, M1, hv, hs, h1, h2⟩ := ho _ _ _ rfl
      obtain ⟨vm, hm⟩ := zsome hs
      exact zcase_31 hX hq hx hm h1 h2 hb
    | 32, _ =>
      obtain ⟨v, w, M1, hv, hs, h1, h2⟩ := ho _ _ _ rfl
      obtain ⟨vm, hm⟩ := zsome hs
      exact zcase_32 hX hq hx hm h1 h2 hb
    | 33, _ =>
      obtain ⟨v, w, M1, hv, hs, h1, h2⟩ := ho _ _ _ rfl
      obtain ⟨vm, hm⟩ := zsome hs
      exact zcase_33 hX hq hx hm h1 h2 hb
    | 34, _ =>
      obtain ⟨v, w, M1, hv, hs, h1, h2⟩ := ho _ _ _ rfl
      obtain ⟨vm, hm⟩ := zsome hs
      exact zcase_34 hX hq hx hm h1 h2 hb
    | 35, _ =>
      obtain ⟨v, w, M1, hv, hs, h1, h2⟩ := ho _ _ _ rfl
      obtain ⟨vm, hm⟩ := zsome hs
      exact zcase_35 hX hq hx hm h1 h2 hb
    | 36, _ =>
      obtain ⟨v, w, M1, hv, hs, h1, h2⟩ := ho _ _ _ rfl
      obtain ⟨vm, hm⟩ := zsome hs
      exact zcase_36 hX hq hx hm h1 h2 hb
    | 37, _ =>
      obtain ⟨v, w, M1, hv, hs, h1, h2⟩ := ho _ _ _ rfl
      obtain ⟨vm, hm⟩ := zsome hs
      exact zcase_37 hX hq hx hm h1 h2 hb
    | jj + 38, hh => exact absurd hh (by omega)
  · obtain ⟨M', hn, b1, b2⟩ := hdef
    refine ⟨M', key ?_, b1, b2⟩
    unfold zcpc
    rw [if_neg h38]
    exact zlaw_back hn
end ZLE
/-- the law's beginning: the two objects -/
theorem zlaw_begin {X : List Int32} {dd : Nat} (hdd : 11 ≤ dd) (hdd2 : dd ≤ 2000) (h : zEnd X dd 0 zM0) : ∃ (F d : Nat) (M : zM), d ≤ 2000 ∧ zlaw X F d = some (some (.int 1), M) ∧ M.length ≤ 600000 ∧ zsl M ≤ 7302250 := by
  obtain ⟨M', hn, b1, b2⟩ := h
  have hz : zLX X dd (0, zent [.ref zBig] 4, [], []) (some (.int 1), M') := by
    refine ZX.me (st' := [.ref 0]) (M' := [(8, zdef 8)]) dl_0 rfl rfl rfl rfl rfl ?_
    refine ZX.pu dl_3 rfl rfl ?_
    refine ZX.ca (j := 2048) (vs := [.ref 0]) (r1 := (none, zM0x)) (st' := [.ref 0]) (M' := zM0x) (zrun0x.X.le hdd) dl_4 rfl rfl rfl rfl rfl rfl ?_
    refine ZX.lo dl_7 rfl rfl rfl rfl ?_
    refine ZX.me (st' := [.ref 386]) (M' := zM0x ++ [(9, zdef 9)]) dl_8 rfl rfl rfl rfl ?_ ?_
    · simp only [zmem, show znew 10 10 = some 9 from rfl, zM0x_len]
      rw [if_pos (by decide)]
    refine ZX.pu dl_11 rfl rfl ?_
    refine ZX.ca (j := 2304) (vs := [.ref 386]) (r1 := (none, zM0)) (st' := [.ref 386]) (M' := zM0) (ZC.run zrun0m |>.le (by omega)) dl_12 rfl rfl rfl rfl rfl rfl ?_
    refine ZX.lo dl_15 rfl rfl rfl rfl ?_
    refine ZX.pu dl_16 rfl rfl ?_
    refine ZX.lo (ml' := zml 0) dl_17 rfl rfl rfl rfl ?_
    exact hn
  obtain ⟨F, hF⟩ := hz
  exact ⟨F, dd, M', by omega, hF, b1, b2⟩
