/-! the tables are right: each row's word stands in lw_tbl -/
def zW : List Jvm.Cond := lw_tbl.filter goodWord
theorem zhas_in {pos : Nat} {w : Jvm.Cond} (h : zhas pos w = true) : w ∈ zW := by
  unfold zhas at h
  rw [Bool.and_eq_true, decide_eq_true_eq] at h
  exact List.mem_filter.mpr ⟨List.mem_of_getElem? h.1, h.2⟩
theorem zW_tbl {w : Jvm.Cond} (h : w ∈ zW) : w ∈ lw_tbl := (List.mem_filter.mp h).1
theorem zW_good {w : Jvm.Cond} (h : w ∈ zW) : goodWord w = true := (List.mem_filter.mp h).2
def zlook {α : Type} (t : List (Nat × α)) (idx : Nat) : Option α := (t.find? (fun q => q.1 == idx)).map (fun q => q.2)
theorem zlook_mem {α : Type} {t : List (Nat × α)} {idx : Nat} {x : α} (h : zlook t idx = some x) : (idx, x) ∈ t := by
  unfold zlook at h
  cases hf : t.find? (fun q => q.1 == idx) with
  | none => rw [hf] at h; cases h
  | some q =>
    rw [hf] at h
    cases h
    have h1 := List.find?_some hf
    have h2 := List.mem_of_find?_eq_some hf
    simp only [beq_iff_eq] at h1
    rw [← h1]
    exact h2
-- the classes
def zlayC (ci : Nat) : Bool := (List.range (znf ci)).all (fun k => zhas ((zlayT ci).getD k 0) (u_lay (zcn ci) (ztb ci) k))
theorem zlay0 : zlayC 0 = true := by decide +kernel
theorem zlay1 : zlayC 1 = true := by decide +kernel
theorem zlay2 : zlayC 2 = true := by decide +kernel
theorem zlay3 : zlayC 3 = true := by decide +kernel
theorem zlay4 : zlayC 4 = true := by decide +kernel
theorem zlay5 : zlayC 5 = true := by decide +kernel
theorem zlay6 : zlayC 6 = true := by decide +kernel
theorem zlay7 : zlayC 7 = true := by decide +kernel
theorem zlay8 : zlayC 8 = true := by decide +kernel
theorem zlay9 : zlayC 9 = true := by decide +kernel
theorem zlay_in {ci : Nat} (h : zlayC ci = true) : ∀ w ∈ u_ws (zcn ci) (ztb ci) (znf ci), w ∈ zW := by
  intro w hw
  unfold u_ws at hw
  obtain ⟨k, hk, rfl⟩ := List.mem_map.mp hw
  unfold zlayC at h
  exact zhas_in (List.all_eq_true.mp h k hk)
/-- a class of the ten: its words, its types, its names are apart -/
def zClsOk (ci : Nat) : Prop := (∀ w ∈ u_ws (zcn ci) (ztb ci) (znf ci), w ∈ zW) ∧ (∀ k, k < znf ci → parseFieldDescriptor (ztb ci k).2.2.1 = some (zty ci k)) ∧ (∀ a, a < znf ci → ∀ b, b < znf ci → a ≠ b → (ztb ci a).2.1 ≠ (ztb ci b).2.1) ∧ vwCl[ci]? = some (zcn ci, ztb ci, znf ci) ∧ ∀ k, k < znf ci → (ztb ci k).1 = zcn ci
theorem zcls_ok {ci : Nat} (h : ci < 10) : zClsOk ci := by
  match ci, h with
  | 0, _ => exact ⟨zlay_in zlay0, tyX0_ok, nmX0, rfl, by decide +kernel⟩
  | 1, _ => exact ⟨zlay_in zlay1, tyX1_ok, nmX1, rfl, by decide +kernel⟩
  | 2, _ => exact ⟨zlay_in zlay2, tyX2_ok, nmX2, rfl, by decide +kernel⟩
  | 3, _ => exact ⟨zlay_in zlay3, tyX3_ok, nmX3, rfl, by decide +kernel⟩
  | 4, _ => exact ⟨zlay_in zlay4, tyX4_ok, nmX4, rfl, by decide +kernel⟩
  | 5, _ => exact ⟨zlay_in zlay5, tyX5_ok, nmX5, rfl, by decide +kernel⟩
  | 6, _ => exact ⟨zlay_in zlay6, tyX6_ok, nmX6, rfl, by decide +kernel⟩
  | 7, _ => exact ⟨zlay_in zlay7, tyX7_ok, nmX7, rfl, by decide +kernel⟩
  | 8, _ => exact ⟨zlay_in zlay8, tyX8_ok, nmX8, rfl, by decide +kernel⟩
  | 9, _ => exact ⟨zlay_in zlay9, tyX9_ok, nmX9, rfl, by decide +kernel⟩
-- fields
def zfld (own idx : Nat) : Option (Nat × Nat) := (zlook (zfldT own) idx).map (fun q => (q.1, q.2.1))
def zfldC (own : Nat) (q : Nat × Nat × Nat × Nat) : Bool := decide (q.2.1 < 10) && decide (q.2.2.1 < znf q.2.1) && zhas q.2.2.2 (.fieldLink (zcn own) q.1 (ztb q.2.1 q.2.2.1).1 (ztb q.2.1 q.2.2.1).2.1 (ztb q.2.1 q.2.2.1).2.2.1)
theorem zfldT_ok (own : Nat) : (zfldT own).all (zfldC own) = true := by
  unfold zfldT
  split <;> first | decide +kernel | rfl
theorem zfld_ok {own idx ci k : Nat} (h : zfld own idx = some (ci, k)) : ci < 10 ∧ k < znf ci ∧ .fieldLink (zcn own) idx (ztb ci k).1 (ztb ci k).2.1 (ztb ci k).2.2.1 ∈ zW := by
  unfold zfld at h
  cases hz : zlook (zfldT own) idx with
  | none => rw [hz] at h; cases h
  | some q =>
    rw [hz] at h
    cases h
    have h1 := List.all_eq_true.mp (zfldT_ok own) _ (zlook_mem hz)
    unfold zfldC at h1
    rw [Bool.and_eq_true, Bool.and_eq_true, decide_eq_true_eq, decide_eq_true_eq] at h1
    exact ⟨h1.1.1, h1.1.2, zhas_in h1.2⟩
-- new
def znew (own idx : Nat) : Option Nat := (zlook (znewT own) idx).map (fun q => q.1)
def znewC (own : Nat) (q : Nat × Nat × Nat × Nat × Nat) : Bool := decide (q.2.1 < 10) && zhas q.2.2.1 (.classLink (zcn own) q.1 (zcn q.2.1)) && zhas q.2.2.2.1 (.instantiable (zcn q.2.1) (znf q.2.1)) && zhas q.2.2.2.2 (.initialized (zcn q.2.1))
theorem znewT_ok (own : Nat) : (znewT own).all (znewC own) = true := by
  unfold znewT
  split <;> first | decide +kernel | rfl
theorem znew_ok {own idx ci : Nat} (h : znew own idx = some ci) : ci < 10 ∧ .classLink (zcn own) idx (zcn ci) ∈ zW ∧ .instantiable (zcn ci) (znf ci) ∈ zW ∧ .initialized (zcn ci) ∈ zW := by
  unfold znew at h
  cases hz : zlook (znewT own) idx with
  | none => rw [hz] at h; cases h
  | some q =>
    rw [hz] at h
    cases h
    have h1 := List.all_eq_true.mp (znewT_ok own) _ (zlook_mem hz)
    unfold znewC at h1
    rw [Bool.and_eq_true, Bool.and_eq_true, Bool.and_eq_true, decide_eq_true_eq] at h1
    exact ⟨h1.1.1.1, zhas_in h1.1.1.2, zhas_in h1.1.2, zhas_in h1.2⟩
-- constants
def zldc (own idx : Nat) : Option Int32 := (zlook (zldcT own) idx).map (fun q => q.1)
def zldcC (own : Nat) (q : Nat × Int32 × Nat) : Bool := zhas q.2.2 (.constant (zcn own) q.1 q.2.1)
theorem zldcT_ok (own : Nat) : (zldcT own).all (zldcC own) = true := by
  unfold zldcT
  split <;> first | decide +kernel | rfl
theorem zldc_ok {own idx : Nat} {v : Int32} (h : zldc own idx = some v) : .constant (zcn own) idx v ∈ zW := by
  unfold zldc at h
  cases hz : zlook (zldcT own) idx with
  | none => rw [hz] at h; cases h
  | some q =>
    rw [hz] at h
    cases h
    have h1 := List.all_eq_true.mp (zldcT_ok own) _ (zlook_mem hz)
    exact zhas_in h1
def zldl (own idx : Nat) : Option Int64 := (zlook (zldlT own) idx).map (fun q => q.1)
def zldlC (own : Nat) (q : Nat × Int64 × Nat) : Bool := zhas q.2.2 (.constantLong (zcn own) q.1 q.2.1)
theorem zldlT_ok (own : Nat) : (zldlT own).all (zldlC own) = true := by
  unfold zldlT
  split <;> first | decide +kernel | rfl
theorem zldl_ok {own idx : Nat} {v : Int64} (h : zldl own idx = some v) : .constantLong (zcn own) idx v ∈ zW := by
  unfold zldl at h
  cases hz : zlook (zldlT own) idx with
  | none => rw [hz] at h; cases h
  | some q =>
    rw [hz] at h
    cases h
    have h1 := List.all_eq_true.mp (zldlT_ok own) _ (zlook_mem hz)
    exact zhas_in h1
-- methods
theorem zmt_c {j : Nat} {t : zMt} (h : zmt j = some t) : zmtC t = true := by
  unfold zmt at h
  split at h
  · exact zmt0_ok _ (List.mem_of_getElem? h)
  · exact zmt1_ok _ (List.mem_of_getElem? h)
  · exact zmt2_ok _ (List.mem_of_getElem? h)
  · exact zmt3_ok _ (List.mem_of_getElem? h)
  · exact zmt4_ok _ (List.mem_of_getElem? h)
  · exact zmt5_ok _ (List.mem_of_getElem? h)
  · exact zmt6_ok _ (List.mem_of_getElem? h)
  · exact zmt7_ok _ (List.mem_of_getElem? h)
  · exact zmt8_ok _ (List.mem_of_getElem? h)
  · exact zmt9_ok _ (List.mem_of_getElem? h)
  · exact zmt11_ok _ (List.mem_of_getElem? h)
  · exact zmt12_ok _ (List.mem_of_getElem? h)
  · cases h
theorem zmt_ok {j ci na ml pos : Nat} {y : MethodName} {cc : ByteArray} {ret : Option FieldType} (h : zmt j = some (ci, na, y, cc, ml, ret, pos)) : ci < 13 ∧ y.cls = zcn ci ∧ plainName y.cls = true ∧ (y.cls ≠ "java/lang/invoke/MethodHandle" ∧ y.cls ≠ "java/lang/invoke/VarHandle") ∧ (parseMethodDescriptor y.desc).map (fun d => d.parameters.length) = some na ∧ ml ≤ 20 ∧ .code y cc ml ret ∈ zW := by
  have h1 := zmt_c h
  unfold zmtC at h1
  simp only [Bool.and_eq_true, decide_eq_true_eq] at h1
  obtain ⟨⟨⟨⟨⟨⟨a, b⟩, c⟩, d⟩, e⟩, f⟩, g⟩ := h1
  exact ⟨a, b, c, ⟨fun z => d (by rw [z]; decide), fun z => d (by rw [z]; decide)⟩, e, f, zhas_in g⟩
-- calls
def zcall (own idx : Nat) : Option (Nat × Nat) := (zlook (zcallT own) idx).map (fun q => (q.1, q.2.1))
def zcallC (own : Nat) (q : Nat × Nat × Nat × Nat × Nat × Nat × Nat) : Bool := match q with
  | (idx, kind, j, p0, p1, p2, p3) => match kind with
    | 4 => zhas p0 (.methodLink (zcn own) idx objectInit) && zhas p1 (.instanceMethod objectInit) && zhas p2 (.code objectInit ⟨#[0xb1]⟩ 1 none)
    | 5 => zhas p0 (.methodLink (zcn own) idx Lib.Math.max.name) && zhas p1 (.static Lib.Math.max.name) && zhas p2 (.initialized "java/lang/Math") && zhas p3 (.code Lib.Math.max.name Lib.Math.max.code 2 (some .int))
    | 6 => zhas p0 (.methodLink (zcn own) idx Lib.Math.min.name) && zhas p1 (.static Lib.Math.min.name) && zhas p2 (.initialized "java/lang/Math") && zhas p3 (.code Lib.Math.min.name Lib.Math.min.code 2 (some .int))
    | 7 => zhas p0 (.methodLink (zcn own) idx arraycopyName) && zhas p1 (.native arraycopyName) && zhas p2 (.static arraycopyName) && zhas p3 (.initialized "java/lang/System")
    | 0 => match zmt j with
      | some (ci, _, y, _) => decide (ci < 10) && zhas p0 (.methodLink (zcn own) idx y) && zhas p1 (.instanceMethod y) && zhas p2 (.selects (zcn ci) y y) && zhas p3 (.initialized (zcn ci))
      | none => false
    | 1 => match zmt j with
      | some (_, _, y, _) => zhas p0 (.methodLink (zcn own) idx y) && zhas p1 (.static y) && zhas p2 (.initialized y.cls)
      | none => false
    | 2 => match zmt j with
      | some (_, _, y, _, _, ret, _) => zhas p0 (.methodLink (zcn own) idx y) && zhas p1 (.instanceMethod y) && zhas p2 (.initialized y.cls) && decide (y.name = "<init>") && decide (ret = none)
      | none => false
    | 3 => match zmt j with
      | some (_, _, y, _, _, ret, _) => decide (lw_tbl[p0]? = some (.methodLinkNest (zcn own) idx y (zcn 8))) && zhas p1 (.instanceMethod y) && zhas p2 (.initialized y.cls) && decide (y.name = "<init>") && decide (ret = none)
      | none => false
    | 8 => zhas p0 (.methodLink (zcn own) idx yJ0_length_8abf5) && zhas p1 (.instanceMethod yJ0_length_8abf5) && zhas p2 (.selects RJ0 yJ0_length_8abf5 yJ0_length_8abf5) && zhas p3 (.initialized RJ0)
    | 9 => zhas p0 (.methodLink (zcn own) idx yJ0_charAt_5068e) && zhas p1 (.instanceMethod yJ0_charAt_5068e) && zhas p2 (.selects RJ0 yJ0_charAt_5068e yJ0_charAt_5068e) && zhas p3 (.initialized RJ0)
    | 10 => zhas p0 (.methodLink (zcn own) idx yJ0_indexOf_0f7a4) && zhas p1 (.instanceMethod yJ0_indexOf_0f7a4) && zhas p2 (.selects RJ0 yJ0_indexOf_0f7a4 yJ0_indexOf_0f7a4) && zhas p3 (.initialized RJ0)
    | _ => true
set_option maxRecDepth 100000 in
theorem zcallT_ok (own : Nat) : (zcallT own).all (zcallC own) = true := by
  unfold zcallT
  split <;> first | decide +kernel | rfl
theorem zcall_c {own idx kind j : Nat} (h : zcall own idx = some (kind, j)) : ∃ p0 p1 p2 p3, zcallC own (idx, kind, j, p0, p1, p2, p3) = true := by
  unfold zcall at h
  cases hz : zlook (zcallT own) idx with
  | none => rw [hz] at h; cases h
  | some q =>
    rw [hz] at h
    cases h
    exact ⟨_, _, _, _, List.all_eq_true.mp (zcallT_ok own) _ (zlook_mem hz)⟩
theorem zcall_0 {own idx j : Nat} (h : zcall own idx = some (0, j)) : ∃ ci na y cc ml ret pos, zmt j = some (ci, na, y, cc, ml, ret, pos) ∧ ci < 10 ∧ .methodLink (zcn own) idx y ∈ zW ∧ .instanceMethod y ∈ zW ∧ .selects (zcn ci) y y ∈ zW ∧ .initialized (zcn ci) ∈ zW := by
  obtain ⟨p0, p1, p2, p3, hc⟩ := zcall_c h
  simp only [zcallC] at hc
  split at hc
  · rename_i ci na y r hz
    obtain ⟨cc, ml, ret, pos⟩ := r
    simp only [Bool.and_eq_true, decide_eq_true_eq] at hc
    obtain ⟨⟨⟨⟨a, b⟩, c⟩, d⟩, e⟩ := hc
    exact ⟨ci, na, y, cc, ml, ret, pos, hz, a, zhas_in b, zhas_in c, zhas_in d, zhas_in e⟩
  · cases hc
theorem zcall_1 {own idx j : Nat} (h : zcall own idx = some (1, j)) : ∃ ci na y cc ml ret pos, zmt j = some (ci, na, y, cc, ml, ret, pos) ∧ .methodLink (zcn own) idx y ∈ zW ∧ .static y ∈ zW ∧ .initialized y.cls ∈ zW := by
  obtain ⟨p0, p1, p2, p3, hc⟩ := zcall_c h
  simp only [zcallC] at hc
  split at hc
  · rename_i ci na y r hz
    obtain ⟨cc, ml, ret, pos⟩ := r
    simp only [Bool.and_eq_true, decide_eq_true_eq] at hc
    obtain ⟨⟨b, c⟩, d⟩ := hc
    exact ⟨ci, na, y, cc, ml, ret, pos, hz, zhas_in b, zhas_in c, zhas_in d⟩
  · cases hc
theorem zcall_2 {own idx j : Nat} (h : zcall own idx = some (2, j)) : ∃ ci na y cc ml pos, zmt j = some (ci, na, y, cc, ml, none, pos) ∧ .methodLink (zcn own) idx y ∈ zW ∧ .instanceMethod y ∈ zW ∧ .initialized y.cls ∈ zW ∧ y.name = "<init>" := by
  obtain ⟨p0, p1, p2, p3, hc⟩ := zcall_c h
  simp only [zcallC] at hc
  split at hc
  · rename_i ci na y cc ml ret pos hz
    simp only [Bool.and_eq_true, decide_eq_true_eq] at hc
    obtain ⟨⟨⟨⟨b, c⟩, d⟩, e⟩, f⟩ := hc
    subst f
    exact ⟨ci, na, y, cc, ml, pos, hz, zhas_in b, zhas_in c, zhas_in d, e⟩
  · cases hc
theorem zcall_3 {own idx j : Nat} (h : zcall own idx = some (3, j)) : ∃ ci na y cc ml pos, zmt j = some (ci, na, y, cc, ml, none, pos) ∧ .methodLinkNest (zcn own) idx y (zcn 8) ∈ lw_tbl ∧ .instanceMethod y ∈ zW ∧ .initialized y.cls ∈ zW ∧ y.name = "<init>" := by
  obtain ⟨p0, p1, p2, p3, hc⟩ := zcall_c h
  simp only [zcallC] at hc
  split at hc
  · rename_i ci na y cc ml ret pos hz
    simp only [Bool.and_eq_true, decide_eq_true_eq] at hc
    obtain ⟨⟨⟨⟨b, c⟩, d⟩, e⟩, f⟩ := hc
    subst f
    exact ⟨ci, na, y, cc, ml, pos, hz, List.mem_of_getElem? b, zhas_in c, zhas_in d, e⟩
  · cases hc
theorem zcall_4 {own idx j : Nat} (h : zcall own idx = some (4, j)) : .methodLink (zcn own) idx objectInit ∈ zW ∧ .instanceMethod objectInit ∈ zW ∧ .code objectInit ⟨#[0xb1]⟩ 1 none ∈ zW := by
  obtain ⟨p0, p1, p2, p3, hc⟩ := zcall_c h
  simp only [zcallC, Bool.and_eq_true] at hc
  exact ⟨zhas_in hc.1.1, zhas_in hc.1.2, zhas_in hc.2⟩
theorem zcall_5 {own idx j : Nat} (h : zcall own idx = some (5, j)) : .methodLink (zcn own) idx Lib.Math.max.name ∈ zW ∧ .static Lib.Math.max.name ∈ zW ∧ .initialized "java/lang/Math" ∈ zW ∧ .code Lib.Math.max.name Lib.Math.max.code 2 (some .int) ∈ zW := by
  obtain ⟨p0, p1, p2, p3, hc⟩ := zcall_c h
  simp only [zcallC, Bool.and_eq_true] at hc
  exact ⟨zhas_in hc.1.1.1, zhas_in hc.1.1.2, zhas_in hc.1.2, zhas_in hc.2⟩
theorem zcall_6 {own idx j : Nat} (h : zcall own idx = some (6, j)) : .methodLink (zcn own) idx Lib.Math.min.name ∈ zW ∧ .static Lib.Math.min.name ∈ zW ∧ .initialized "java/lang/Math" ∈ zW ∧ .code Lib.Math.min.name Lib.Math.min.code 2 (some .int) ∈ zW := by
  obtain ⟨p0, p1, p2, p3, hc⟩ := zcall_c h
  simp only [zcallC, Bool.and_eq_true] at hc
  exact ⟨zhas_in hc.1.1.1, zhas_in hc.1.1.2, zhas_in hc.1.2, zhas_in hc.2⟩
theorem zcall_7 {own idx j : Nat} (h : zcall own idx = some (7, j)) : .methodLink (zcn own) idx arraycopyName ∈ zW ∧ .native arraycopyName ∈ zW ∧ .static arraycopyName ∈ zW ∧ .initialized "java/lang/System" ∈ zW := by
  obtain ⟨p0, p1, p2, p3, hc⟩ := zcall_c h
  simp only [zcallC, Bool.and_eq_true] at hc
  exact ⟨zhas_in hc.1.1.1, zhas_in hc.1.1.2, zhas_in hc.1.2, zhas_in hc.2⟩
theorem zcall_8 {own idx j : Nat} (h : zcall own idx = some (8, j)) : .methodLink (zcn own) idx yJ0_length_8abf5 ∈ zW ∧ .instanceMethod yJ0_length_8abf5 ∈ zW ∧ .selects RJ0 yJ0_length_8abf5 yJ0_length_8abf5 ∈ zW ∧ .initialized RJ0 ∈ zW := by
  obtain ⟨p0, p1, p2, p3, hc⟩ := zcall_c h
  simp only [zcallC, Bool.and_eq_true] at hc
  exact ⟨zhas_in hc.1.1.1, zhas_in hc.1.1.2, zhas_in hc.1.2, zhas_in hc.2⟩
theorem zcall_9 {own idx j : Nat} (h : zcall own idx = some (9, j)) : .methodLink (zcn own) idx yJ0_charAt_5068e ∈ zW ∧ .instanceMethod yJ0_charAt_5068e ∈ zW ∧ .selects RJ0 yJ0_charAt_5068e yJ0_charAt_5068e ∈ zW ∧ .initialized RJ0 ∈ zW := by
  obtain ⟨p0, p1, p2, p3, hc⟩ := zcall_c h
  simp only [zcallC, Bool.and_eq_true] at hc
  exact ⟨zhas_in hc.1.1.1, zhas_in hc.1.1.2, zhas_in hc.1.2, zhas_in hc.2⟩
theorem zcall_10 {own idx j : Nat} (h : zcall own idx = some (10, j)) : .methodLink (zcn own) idx yJ0_indexOf_0f7a4 ∈ zW ∧ .instanceMethod yJ0_indexOf_0f7a4 ∈ zW ∧ .selects RJ0 yJ0_indexOf_0f7a4 yJ0_indexOf_0f7a4 ∈ zW ∧ .initialized RJ0 ∈ zW := by
  obtain ⟨p0, p1, p2, p3, hc⟩ := zcall_c h
  simp only [zcallC, Bool.and_eq_true] at hc
  exact ⟨zhas_in hc.1.1.1, zhas_in hc.1.1.2, zhas_in hc.1.2, zhas_in hc.2⟩
