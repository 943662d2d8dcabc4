/-! the box at the beginning (by the kernel); the box of a later call is wider -/
theorem zT_mem (a k : Nat) : zT a k = (9, 0, 0) ∨ ∃ e ∈ zTT, zT a k ∈ e.2 := by
  unfold zT
  split
  · rename_i he
    exact Or.inr ⟨_, List.mem_of_getElem? he, List.mem_cons_self⟩
  · rename_i l _ he
    rw [List.getD_eq_getElem?_getD]
    cases hl : l[k]? with
    | none => exact Or.inl rfl
    | some t => exact Or.inr ⟨_, List.mem_of_getElem? he, List.mem_of_getElem? hl⟩
  · exact Or.inl rfl
set_option maxRecDepth 100000 in
theorem zT_5 (a k : Nat) (h : (zT a k).1 = 5) : (zT a k).2.2 = 3000 := by
  have hall : ∀ e ∈ zTT, ∀ t ∈ e.2, t.1 = 5 → t.2.2 = 3000 := by decide +kernel
  rcases zT_mem a k with h1 | ⟨e, he, ht⟩
  · rw [h1] at h
    cases h
  · exact hall e he _ ht h
theorem zIn_mono {N N' : Nat} (hN : N ≤ N') (t : Nat × Int × Int) (v : Value) (h5 : t.1 = 5 → t.2.2 = 3000) (h : zIn N t v) : zIn N' t v := by
  obtain ⟨n, lo, hi⟩ := t
  match n, h, h5 with
  | 0, h, _ => cases v <;> exact h
  | 1, h, _ => cases v <;> exact h
  | 2, h, _ => cases v <;> exact h
  | 3, h, _ => cases v <;> exact h
  | 4, h, _ => cases v <;> exact h
  | 5, h, h5 =>
    have h6 : hi = 3000 := h5 rfl
    subst h6
    cases v with
    | int x =>
      have h7 : lo ≤ x.toInt ∧ x.toInt ≤ 3000 * (N : Int) := h
      show lo ≤ x.toInt ∧ x.toInt ≤ 3000 * (N' : Int)
      omega
    | _ => exact h
  | n + 6, h, _ => cases v <;> exact h
theorem zB_mono {N N' : Nat} {M : zM} (h : zB N M) (hN : N ≤ N') : zB N' M := ⟨h.1, fun a k v hv => zIn_mono hN _ v (zT_5 a k) (h.2 a k v hv)⟩
theorem zInB_ok {t : Nat × Int × Int} {v : Value} (h : zInB t v = true) : zIn 0 t v := by
  obtain ⟨n, lo, hi⟩ := t
  match n, h with
  | 0, h =>
    cases v with
    | int x => exact (by simpa [zInB, zIn] using h)
    | _ => cases h
  | 1, h =>
    cases v with
    | long x => exact (by simpa [zInB, zIn] using h)
    | _ => cases h
  | 2, h =>
    cases v with
    | ref x => exact (by simpa [zInB, zIn] using h)
    | _ => cases h
  | 3, h =>
    cases v with
    | ref x => exact (by simpa [zInB, zIn] using h)
    | _ => cases h
  | 4, h => cases v <;> cases h
  | 5, h =>
    cases v with
    | int x =>
      have h2 : (decide (lo ≤ x.toInt) && decide (x.toInt ≤ 0) && decide (0 ≤ hi)) = true := h
      rw [Bool.and_eq_true, Bool.and_eq_true, decide_eq_true_eq, decide_eq_true_eq] at h2
      have h3 := h2.1.2
      show lo ≤ x.toInt ∧ x.toInt ≤ hi * ((0 : Nat) : Int)
      refine ⟨h2.1.1, ?_⟩
      simpa using h3
    | _ => cases h
  | n + 6, h => cases v <;> cases h
def zckC (p : zE × (Bool × List (Nat × Int × Int))) : Bool := match p.2 with
  | (true, t :: _) => p.1.2.all (zInB t)
  | (_, l) => (List.range p.1.2.length).all fun k => zInB (l.getD k (9, 0, 0)) (p.1.2.getD k .null)
set_option maxRecDepth 1000000 in
theorem zck_ok : (zM0.zip zTT).all zckC = true := by decide +kernel
theorem zck_len : zTT.length = 440 := by decide +kernel
theorem zB_0 : zB 0 zM0 := by
  refine ⟨zSh_0, fun a k v hv => ?_⟩
  unfold zvl at hv
  cases hc : zM0[a]? with
  | none => rw [hc] at hv; cases hv
  | some c =>
    rw [hc] at hv
    have hv2 : c.2[k]? = some v := hv
    have hlt : a < 440 := by
      have := (List.getElem?_eq_some_iff.mp hc).1
      rw [zM0_len] at this
      exact this
    obtain ⟨e, he⟩ : ∃ e, zTT[a]? = some e := ⟨zTT[a]'(by rw [zck_len]; exact hlt), List.getElem?_eq_getElem _⟩
    have hz : (zM0.zip zTT)[a]? = some (c, e) := by
      rw [List.getElem?_zip_eq_some]
      exact ⟨hc, he⟩
    have h1 := List.all_eq_true.mp zck_ok _ (List.mem_of_getElem? hz)
    have hkl : k < c.2.length := (List.getElem?_eq_some_iff.mp hv2).1
    unfold zckC at h1
    dsimp only at h1
    unfold zT
    rw [he]
    split at h1
    · rename_i t l
      exact zInB_ok (List.all_eq_true.mp h1 v (List.mem_of_getElem? hv2))
    · rename_i b l hne
      have h2 := List.all_eq_true.mp h1 k (List.mem_range.mpr hkl)
      rw [List.getD_eq_getElem?_getD, List.getD_eq_getElem?_getD, hv2] at h2
      have h3 := zInB_ok h2
      split
      · rename_i t l2 q
        cases q
        exact (hne _ _ rfl rfl).elim
      · rename_i l2 b2 q q2
        cases q2
        rw [List.getD_eq_getElem?_getD]
        exact h3
      · rename_i q
        cases q
