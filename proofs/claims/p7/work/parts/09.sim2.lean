/-! the small machine's cells in the real heap; its cell steps are the machine's -/
def zf (ad : Nat → Nat) (vs : List Value) : Nat → Value := fun j => ztr ad (vs.getD j .null)
theorem zf_at {ad : Nat → Nat} {vs : List Value} {k : Nat} {v : Value} (h : vs[k]? = some v) : zf ad vs k = ztr ad v := by
  unfold zf
  rw [List.getD_eq_getElem?_getD, h]
  rfl
theorem zf_set {ad : Nat → Nat} {vs : List Value} {k : Nat} {v : Value} (hk : k < vs.length) : zf ad (vs.set k v) = updV (zf ad vs) k (ztr ad v) := by
  funext j
  simp only [zf, updV, List.getD_eq_getElem?_getD, List.getElem?_set]
  by_cases hj : k = j
  · subst hj
    simp [hk]
  · simp [hj, Ne.symm hj]
theorem ztr_narrow {ad : Nat → Nat} {ty : FieldType} {v : Value} (h : narrow ty v = v) : narrow ty (ztr ad v) = ztr ad v := by
  cases v with
  | ref k => cases ty <;> rfl
  | _ => exact h
theorem ztr_fits {ad : Nat → Nat} {ty : FieldType} {v : Value} (h : fits ty v = true) : fits ty (ztr ad v) = true := by
  cases v with
  | ref k => cases ty <;> first | rfl | cases h
  | _ => exact h
def zat (D : va_G) (cy : Nat → ClassId) (ad : Nat → Nat) (q : Nat) (x : zE) (H : Heap) : Prop :=
  if x.1 < 10 then t_OB q (D.1 x.1) (znf x.1) (D.2 x.1) H (zf ad x.2) else H[q]? = some (arrV (cy x.1) x.2.length (zf ad x.2))
theorem zat.kept {D : va_G} {cy : Nat → ClassId} {ad : Nat → Nat} {q : Nat} {x : zE} {H H1 : Heap} (h : zat D cy ad q x H) (hq : H1[q]? = H[q]?) : zat D cy ad q x H1 := by
  unfold zat at h ⊢
  split
  · rename_i hc
    rw [if_pos hc] at h
    exact h.kept hq
  · rename_i hc
    rw [if_neg hc] at h
    exact hq.trans h
def zR (D : va_G) (cy : Nat → ClassId) (g : Nat → Nat) (base : Nat) (G : Heap) (M : zM) (H : Heap) : Prop :=
  H.size = base + M.length ∧ M.length ≤ zBig ∧ (∀ q : Nat, q < base → H[q]? = G[q]?) ∧ ∀ (k : Nat) (x : zE), M[k]? = some x → zat D cy (zad g base) (base + k) x H
def zTys (cy : Nat → ClassId) : List (ClassId × FieldType) := [(cy 10, .int), (cy 11, .long), (cy 12, .boolean), (cy 13, .object RX6)]
def zisNest : Jvm.Cond → Bool
  | .methodLinkNest _ _ _ _ => true
  | _ => false
/-- the texts, as the tables have them -/
def ztxS : Nat → String
  | 0 => "force weight depth place minute beside felt boy odds pulls snores ghost slack at dream tug lasts passes pass deep when or and not all min max"
  | _ => ";[]()<>=+-*/%,"
def ztxI : Nat → Nat
  | 0 => 35
  | _ => 106
def zbyt : List (List Int32) := [(ztx 0).map nI, (ztx 1).map nI]
def zlen : List Nat := [(ztx 0).length, (ztx 1).length]
/-- what is known of the texts and of the statics that their methods read -/
def zSt (g : Nat → Nat) (base : Nat) (G : Heap) (U : State) : Prop :=
  (∀ k : Nat, k < 2 → vk_R RX5 (ztxI k) (ztxS k) (g (1 + k)) U) ∧ vk_S 2 zlen zbyt (fun i => g (1 + i)) (fun i => g (3 + i)) (fun q => base ≤ q) U G ∧ (∀ k : Nat, k < 2 → g (1 + k) < base) ∧
  va_Z "java/lang/String" "COMPACT_STRINGS" "Z" (.int 1) (fun q => base ≤ q) U G ∧ va_Zq "jdk/internal/util/Preconditions" "SIOOBE_FORMATTER" "Ljava/util/function/BiFunction;" (fun q => base ≤ q) U G ∧ va_AO RX6 U
theorem zSt.warm {g : Nat → Nat} {base : Nat} {G : Heap} {u U : State} (hW : u.WarmedH U.vm) (h : zSt g base G u) : zSt g base G U := ⟨fun k hk => (h.1 k hk).warm hW, h.2.1.moved hW.alike, h.2.2.1, h.2.2.2.1.moved hW.alike, h.2.2.2.2.1.moved hW.alike, h.2.2.2.2.2.moved hW.alike⟩
theorem zSt.same {g : Nat → Nat} {base : Nat} {G : Heap} {u U : State} (hv : u.vm = U.vm) (h : zSt g base G u) : zSt g base G U := by
  have ha : u.vm.Alike U.vm := by rw [hv]; exact Vm.Alike.refl U.vm
  exact ⟨fun k hk => (h.1 k hk).same hv.symm, h.2.1.moved ha, h.2.2.1, h.2.2.2.1.moved ha, h.2.2.2.2.1.moved ha, h.2.2.2.2.2.moved ha⟩
def zKn (D : va_G) (cy : Nat → ClassId) (g : Nat → Nat) (base : Nat) (G : Heap) (X : List Int32) (U : State) : Prop :=
  va_K D vwCl (zTys cy) U ∧ va_X (g 0) X.length (fun j => X.getD j 0) U G ∧ g 0 < base ∧ (∀ w ∈ lw_tbl, zisNest w = true → va_Nw w U) ∧ zSt g base G U
theorem zKn.warm {D : va_G} {cy : Nat → ClassId} {g : Nat → Nat} {base : Nat} {G : Heap} {X : List Int32} {u U : State} (hW : u.WarmedH U.vm) (h : zKn D cy g base G X u) : zKn D cy g base G X U := by
  refine ⟨h.1.moved hW.alike, h.2.1.moved hW.alike, h.2.2.1, fun w hw hn => ?_, h.2.2.2.2.warm hW⟩
  have h1 := h.2.2.2.1 w hw hn
  cases w with
  | methodLinkNest a i x h => exact va_Nw.warmM hW h1
  | _ => cases hn
theorem zKn.same {D : va_G} {cy : Nat → ClassId} {g : Nat → Nat} {base : Nat} {G : Heap} {X : List Int32} {u U : State} (hv : u.vm = U.vm) (h : zKn D cy g base G X u) : zKn D cy g base G X U := by
  have ha : u.vm.Alike U.vm := by rw [hv]; exact Vm.Alike.refl U.vm
  refine ⟨h.1.moved ha, h.2.1.moved ha, h.2.2.1, fun w hw hn => ?_, h.2.2.2.2.same hv⟩
  have h1 := h.2.2.2.1 w hw hn
  cases w with
  | methodLinkNest a i x h => exact va_Nw.same rfl hv h1
  | _ => cases hn
def zLo (base : Nat) (locs : List Loc) : Prop := ∀ q ∈ locs, base ≤ q.base
def zsl (M : zM) : Nat := (M.map fun x => x.2.length).sum
theorem zsl_app (M : zM) (x : zE) : zsl (M ++ [x]) = zsl M + x.2.length := by
  unfold zsl
  rw [List.map_append, List.sum_append]
  simp
theorem zsl_set : ∀ {M : zM} {a : Nat} {x y : zE}, M[a]? = some x → y.2.length = x.2.length → zsl (M.set a y) = zsl M
  | [], _, _, _, h, _ => by cases h
  | z :: M, 0, x, y, h, e => by
    cases h
    show (y.2.length :: _).sum = (z.2.length :: _).sum
    rw [List.sum_cons, List.sum_cons, e]
  | z :: M, a + 1, x, y, h, e => by
    show (z.2.length :: ((M.set a y).map fun x => x.2.length)).sum = (z.2.length :: _).sum
    rw [List.sum_cons, List.sum_cons]
    exact congrArg (z.2.length + ·) (zsl_set (M := M) (a := a) h e)
theorem zarr_some {M : zM} {a kind : Nat} {vs : List Value} (h : zarr M a kind = some vs) : M[a]? = some (kind, vs) := by
  unfold zarr at h
  split at h
  · split at h
    · rename_i hc
      cases h
      subst hc
      assumption
    · cases h
  · cases h
theorem zald_inv {M : zM} {kind : Nat} {st st' : List Value} (h : zald M kind st = some st') : ∃ (i : Int32) (a : Nat) (r vs : List Value) (v : Value), st = .int i :: .ref a :: r ∧ zarr M a kind = some vs ∧ ¬ (i < 0 ∨ vs.length ≤ i.toNatClampNeg) ∧ vs[i.toNatClampNeg]? = some v ∧ st' = v :: r := by
  unfold zald at h
  split at h
  · split at h
    · rename_i vs hz
      split at h
      · rename_i k hk
        unfold zidx at hk
        split at hk
        · cases hk
        · rename_i hc
          cases hk
          rw [Option.map_eq_some_iff] at h
          obtain ⟨v, hv, rfl⟩ := h
          exact ⟨_, _, _, vs, v, rfl, hz, hc, hv, rfl⟩
      · cases h
    · cases h
  · cases h
theorem zast_inv {M M' : zM} {kind : Nat} {v : Value} {st st' : List Value} (h : zast M kind v st = some (st', M')) : ∃ (i : Int32) (a : Nat) (vs : List Value), st = .int i :: .ref a :: st' ∧ zarr M a kind = some vs ∧ ¬ (i < 0 ∨ vs.length ≤ i.toNatClampNeg) ∧ M' = M.set a (kind, vs.set i.toNatClampNeg v) := by
  unfold zast at h
  split at h
  · split at h
    · rename_i vs hz
      split at h
      · rename_i k hk
        unfold zidx at hk
        split at hk
        · cases hk
        · rename_i hc
          cases hk
          cases h
          exact ⟨_, _, vs, rfl, hz, hc, rfl⟩
      · cases h
    · cases h
  · cases h
section ZM
variable {p : Program} {l : Launch} {e : Env} {R : Room} {s : State} {m : MethodId} {args : Array Value} {below : List Frame} {meth : Method} {c : Code} {H : Heap} {locs : List Loc} {cells slots : Nat} {Q : State → Prop} {cc : ByteArray} {pc : Nat} {ls : Array Slot}
variable {D : va_G} {cy : Nat → ClassId} {g : Nat → Nat} {base : Nat} {G : Heap} {X : List Int32} {own : Nat} {M M' : zM}
theorem zR.ad (h : zR D cy g base G M H) {k : Nat} {x : zE} (hk : M[k]? = some x) : zad g base k = base + k := by
  have h1 := (List.getElem?_eq_some_iff.mp hk).1
  have h2 := h.2.1
  unfold zad
  rw [if_pos (by omega)]
theorem zR.obj (h : zR D cy g base G M H) {a ci : Nat} {vs : List Value} (ha : zarr M a ci = some vs) (hc : ci < 10) : t_OB (zad g base a) (D.1 ci) (znf ci) (D.2 ci) H (zf (zad g base) vs) := by
  have h1 := h.2.2.2 a _ (zarr_some ha)
  unfold zat at h1
  rw [if_pos hc] at h1
  rw [h.ad (zarr_some ha)]
  exact h1
theorem zR.arr (h : zR D cy g base G M H) {a ci : Nat} {vs : List Value} (ha : M[a]? = some (ci, vs)) (hc : 10 ≤ ci) : H[zad g base a]? = some (arrV (cy ci) vs.length (zf (zad g base) vs)) := by
  have h1 := h.2.2.2 a _ ha
  unfold zat at h1
  rw [if_neg (by show ¬ ci < 10; omega)] at h1
  rw [h.ad ha]
  exact h1
theorem zR.set {H1 : Heap} (h : zR D cy g base G M H) {k : Nat} {x y : zE} (hk : M[k]? = some x) (z : H1.size = H.size) (oq : ∀ q : Nat, q ≠ zad g base k → H1[q]? = H[q]?) (hy : zat D cy (zad g base) (base + k) y H1) : zR D cy g base G (M.set k y) H1 := by
  have hl := (List.getElem?_eq_some_iff.mp hk).1
  have ea := h.ad hk
  refine ⟨by rw [z, List.length_set]; exact h.1, by rw [List.length_set]; exact h.2.1, fun q hq => ?_, fun j w hj => ?_⟩
  · rw [oq q (by omega)]
    exact h.2.2.1 q hq
  · rw [List.getElem?_set] at hj
    split at hj
    · rename_i hkj
      subst hkj
      first | (rw [if_pos hl] at hj; cases hj; exact hy) | (cases hj; exact hy)
    · rename_i hkj
      exact (h.2.2.2 j w hj).kept (oq _ (by omega))
theorem zR.push {H1 : Heap} (h : zR D cy g base G M H) {y : zE} (z : H1.size = H.size + 1) (oq : ∀ q : Nat, q < H.size → H1[q]? = H[q]?) (hy : zat D cy (zad g base) H.size y H1) (hl : M.length < zBig) : zR D cy g base G (M ++ [y]) H1 := by
  refine ⟨by rw [z, List.length_append, h.1]; simp; omega, by rw [List.length_append]; simp; omega, fun q hq => ?_, fun j w hj => ?_⟩
  · rw [oq q (by rw [h.1]; omega)]
    exact h.2.2.1 q hq
  · by_cases hlt : j < M.length
    · rw [List.getElem?_append_left hlt] at hj
      exact (h.2.2.2 j w hj).kept (oq _ (by rw [h.1]; omega))
    · rw [List.getElem?_append_right (by omega)] at hj
      have hz : j - M.length < 1 := (List.getElem?_eq_some_iff.mp hj).1
      have hj0 : j - M.length = 0 := by omega
      rw [hj0] at hj
      cases hj
      rw [show base + j = H.size by rw [h.1]; omega]
      exact hy
theorem zR.new (h : zR D cy g base G M H) (hl : M.length < zBig) : zad g base M.length = H.size := by
  unfold zad
  rw [if_pos hl, h.1]
theorem zLo.put (h : zLo base locs) {a k : Nat} (ha : base ≤ a) : zLo base (locs ++ [⟨a, k⟩]) := by
  intro q hq
  rcases List.mem_append.mp hq with h1 | h1
  · exact h q h1
  · rw [List.mem_singleton.mp h1]
    exact ha
theorem zget_sim (hx : p.tables.exec = Jvm.exec) (hb : c.code = cc) (hts : ∀ w ∈ zW, w.before args s = true) (hown : s.vm.findClass (zcn own) = some m.cls) (hK : zKn D cy g base G X s) (hR : zR D cy g base G M H) {idx ci k a : Nat} {vs r : List Value} {v : Value} (hf : zfld own idx = some (ci, k)) (ha : zarr M a ci = some vs) (hv : vs[k]? = some v) (hd : decode cc pc = .ok (.getfield idx, 3))
    (kk : W p l e R s m args below meth c H locs cells slots Q (F0 m (pc + 3) ls ((v :: r).map (ztr (zad g base))))) : W p l e R s m args below meth c H locs cells slots Q (F0 m pc ls ((Value.ref a :: r).map (ztr (zad g base)))) := by
  obtain ⟨hci, hk, hw⟩ := zfld_ok hf
  obtain ⟨hin, hty, hnm, hc, hdecl⟩ := zcls_ok hci
  obtain ⟨cell, q1, q2, q3, q4⟩ := hR.obj ha hci
  obtain ⟨hS, hfc, kC, hkC, hkind⟩ := hK.1.1 ci _ hc
  obtain ⟨cf, kf, fi, f, hi, hsl⟩ := hS k hk
  refine W.getf hx hb hown (hts _ hw) hi (u_facts hfc hkC (u_lays hts hin hk) hi).1 q1 (by rw [q3]; exact fun h => by cases h) (v := ztr (zad g base) v) ?_ rfl rfl hd kk
  rw [hsl, q4 k hk, zf_at hv]
theorem zput_sim (hx : p.tables.exec = Jvm.exec) (hb : c.code = cc) (hts : ∀ w ∈ zW, w.before args s = true) (hown : s.vm.findClass (zcn own) = some m.cls) (hK : zKn D cy g base G X s) (hR : zR D cy g base G M H) (hLo : zLo base locs) {idx ci k a : Nat} {vs r : List Value} {v : Value} (hf : zfld own idx = some (ci, k)) (ha : zarr M a ci = some vs) (hk2 : k < vs.length) (hn : narrow (zty ci k) v = v) (hft : fits (zty ci k) v = true) (hfin : (ztb ci k).2.2.2 = true → meth.name = "<init>" ∧ own = ci) (hd : decode cc pc = .ok (.putfield idx, 3))
    (kk : ∀ H' locs', zR D cy g base G (M.set a (ci, vs.set k v)) H' → zLo base locs' → W p l e R s m args below meth c H' locs' cells slots Q (F0 m (pc + 3) ls (r.map (ztr (zad g base))))) : W p l e R s m args below meth c H locs cells slots Q (F0 m pc ls ((v :: Value.ref a :: r).map (ztr (zad g base)))) := by
  obtain ⟨hci, hk, hw⟩ := zfld_ok hf
  obtain ⟨hin, hty, hnm, hc, hdecl⟩ := zcls_ok hci
  have hap := va_apart (own := zcn own) hts hin (zty ci) hty hnm hK.1 hc
  obtain ⟨cell, q1, q2, q3, q4⟩ := hR.obj ha hci
  obtain ⟨hS, hfc, kC, hkC, hkind⟩ := hK.1.1 ci _ hc
  obtain ⟨cf, kf, fi, f, hi, hsl⟩ := hS k hk
  have hst := (u_facts hfc hkC (u_lays hts hin hk) hi).1
  have ea := hR.ad (zarr_some ha)
  have fin : ∀ H' : Heap, H'[zad g base a]? = some (cell.setSlot f.slot (ztr (zad g base) v)) → H'.size = H.size → (∀ q, q ≠ zad g base a → H'[q]? = H[q]?) → zR D cy g base G (M.set a (ci, vs.set k v)) H' := by
    intro H' e1 e2 e3
    refine hR.set (zarr_some ha) e2 e3 ?_
    unfold zat
    rw [if_pos hci, ← ea]
    rw [hsl] at e1
    show t_OB _ _ _ _ _ (zf (zad g base) (vs.set k v))
    rw [zf_set hk2]
    exact ⟨_, e1, q2, q3, t_set q4 hap hk _⟩
  by_cases hfl : (ztb ci k).2.2.2 = true
  · obtain ⟨hini, hoc⟩ := hfin hfl
    have hlay := hts _ (hin _ (u_in_lay hk))
    unfold u_lay at hlay
    rw [if_pos hfl] at hlay
    have hcf : m.cls = cf := by
      obtain ⟨_, _, c', _, _, _, -, -, hf', -, -, -, hown2, -⟩ := Cond.laysFinal_spec hlay
      have e1 : c' = cf := by have := hi.symm.trans hf'; simp at this; exact this.1.symm
      rw [hdecl k hk, ← hoc] at hown2
      rw [← e1]; exact Option.some.inj (hown.symm.trans hown2)
    have h6 := u_fits hfc hkC hkind (Or.inr hlay) hi (hty k hk) (ztr_narrow hn) (ztr_fits (ad := zad g base) hft)
    exact W.putFinK hx hb hown (hts _ hw) hi hst hcf hini (by rw [q2]; exact h6) q1 q3 (by rw [hsl]; exact k2_hasslot (q4 k hk)) rfl rfl hd fun H' e1 e2 e3 => kk H' _ (fin H' e1 e2 e3) (hLo.put (by rw [ea]; omega))
  · have hlay := hts _ (hin _ (u_in_lay hk))
    unfold u_lay at hlay
    rw [if_neg hfl] at hlay
    have h6 := u_store hfc hkC hkind hlay hi (hty k hk) (ztr_narrow hn) (ztr_fits (ad := zad g base) hft)
    exact W.putK hx hb (f := f) ⟨hown, hts _ hw, ⟨_, _, _, hi⟩, hst⟩ (by rw [q2]; exact h6) q1 q3 (by rw [hsl]; exact k2_hasslot (q4 k hk)) rfl rfl hd fun H' e1 e2 e3 => kk H' _ (fin H' e1 e2 e3) (hLo.put (by rw [ea]; omega))
theorem zarr_put (hR : zR D cy g base G M H) {a kind k : Nat} {vs : List Value} {v : Value} (ha : M[a]? = some (kind, vs)) (hk : 10 ≤ kind) (hlt : k < vs.length) {H' : Heap} (e1 : H'[zad g base a]? = some ((arrV (cy kind) vs.length (zf (zad g base) vs)).setSlot k (ztr (zad g base) v))) (e2 : H'.size = H.size) (e3 : ∀ q, q ≠ zad g base a → H'[q]? = H[q]?) : zR D cy g base G (M.set a (kind, vs.set k v)) H' := by
  refine hR.set ha e2 e3 ?_
  unfold zat
  rw [if_neg (by show ¬ kind < 10; omega), ← hR.ad ha]
  show _ = some (arrV _ (vs.set k v).length (zf _ (vs.set k v)))
  rw [e1, arrV_store, List.length_set, zf_set hlt]
end ZM
