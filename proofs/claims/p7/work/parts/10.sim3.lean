/-! the small machine's cell steps are the machine's -/
theorem zw_int : .arrayClass .int ∈ zW := zhas_in (pos := 203) (by decide +kernel)
theorem zw_boolean : .arrayClass .boolean ∈ zW := zhas_in (pos := 204) (by decide +kernel)
theorem zw_long : .arrayClass .long ∈ zW := zhas_in (pos := 1494) (by decide +kernel)
theorem zad_big (g : Nat → Nat) (base k : Nat) : zad g base (zBig + k) = g k := by
  unfold zad
  rw [if_neg (by omega), Nat.add_sub_cancel_left]
theorem ztr_default (ad : Nat → Nat) (t : FieldType) : ztr ad (defaultValue t) = defaultValue t := by cases t <;> rfl
theorem zdef_len (ci : Nat) : (zdef ci).length = znf ci := by simp [zdef]
theorem zdef_at (ad : Nat → Nat) {ci k : Nat} (hk : k < znf ci) : zf ad (zdef ci) k = defaultValue (zty ci k) := by
  rw [zf_at (v := defaultValue (zty ci k)) (by simp [zdef, hk])]
  exact ztr_default ad _
theorem zf_rep (ad : Nat → Nat) (n : Nat) (v : Value) (hv : ztr ad v = v) (c : ClassId) : arrV c n (zf ad (List.replicate n v)) = arrV c n (fun _ => v) := by
  unfold arrV
  congr 1
  apply Array.ext
  · simp
  · intro i h1 h2
    simp only [Array.size_ofFn] at h1
    simp only [Array.getElem_ofFn]
    rw [zf_at (v := v) (by simp [h1])]
    exact hv
section ZM3
variable {p : Program} {l : Launch} {e : Env} {R : Room} {s : State} {m : MethodId} {args : Array Value} {below : List Frame} {meth : Method} {c : Code} {H : Heap} {locs : List Loc} {cells slots : Nat} {Q : State → Prop} {cc : ByteArray} {pc : Nat} {ls : Array Slot}
variable {D : va_G} {cy : Nat → ClassId} {g : Nat → Nat} {base : Nat} {G : Heap} {X : List Int32} {own : Nat} {M M' : zM}
theorem zR.in (hR : zR D cy g base G M H) {a kind : Nat} {vs : List Value} {i : Int32} (hi : ¬ (i < 0 ∨ vs.length ≤ i.toNatClampNeg)) : ¬ (i < 0 ∨ (arrV (cy kind) vs.length (zf (zad g base) vs)).slots.size ≤ i.toNatClampNeg) := by
  rw [arrV_size]
  exact hi
theorem znewa_sim (hx : p.tables.exec = Jvm.exec) (hb : c.code = cc) (hK : zKn D cy g base G X s) (hR : zR D cy g base G M H) {aty : ArrayType} {kind t0 : Nat} {dv : Value} {n : Int32} {r : List Value} (harr : (Jvm.Cond.arrayClass (newarray.typeOf aty)).before args s = true) (ht : (zTys cy)[t0]? = some (cy kind, newarray.typeOf aty)) (hk : 10 ≤ kind) (hdv : defaultValue (newarray.typeOf aty) = dv) (htv : ztr (zad g base) dv = dv) (hno : ∀ C, newarray.typeOf aty ≠ .object C) (hn : ¬ n < 0) (hN : n.toNatClampNeg ≤ 100000) (hl : M.length < zBig) (hcb : componentBytes (newarray.typeOf aty) ≤ 8) (hc : cells + 1 ≤ R.cells) (hs : slots + n.toNatClampNeg ≤ R.slots) (hd : decode cc pc = .ok (.newarray aty, 2))
    (kk : ∀ H', zR D cy g base G (M ++ [(kind, List.replicate n.toNatClampNeg dv)]) H' → W p l e R s m args below meth c H' locs (cells + 1) (slots + n.toNatClampNeg) Q (F0 m (pc + 2) ls ((Value.ref M.length :: r).map (ztr (zad g base))))) : W p l e R s m args below meth c H locs cells slots Q (F0 m pc ls ((Value.int n :: r).map (ztr (zad g base)))) := by
  refine W.newa hx hb harr rfl hd rfl hn (Nat.le_trans (Nat.mul_le_mul hN hcb) (Nat.le_of_ble_eq_true rfl)) hc hs fun cA kA comp h1 h2 h3 => ?_
  have hfc := (hK.1.2 t0 _ ht).2
  have hcA : cA = cy kind := by
    have h4 : s.vm.findClass ("[" ++ (newarray.typeOf aty).toString) = some (cy kind) := by
      unfold va_RA at hfc
      split at hfc
      · rename_i C hC
        exact absurd hC (hno C)
      · exact hfc
    exact Option.some.inj (h1.symm.trans h4)
  subst hcA
  have hz := kk (H.push { cls := cy kind, slots := Array.replicate n.toNatClampNeg (defaultValue (newarray.typeOf aty)), vm := .none }) (hR.push (by simp) (fun q hq => by rw [Array.getElem?_push, if_neg (Nat.ne_of_lt hq)]) (by
    unfold zat
    rw [if_neg (by show ¬ kind < 10; omega)]
    rw [Array.getElem?_push_size, arrV_new, hdv]
    show _ = some (arrV (cy kind) (List.replicate n.toNatClampNeg dv).length (zf _ (List.replicate n.toNatClampNeg dv)))
    rw [List.length_replicate, zf_rep _ _ _ htv]) hl)
  have hq : (Value.ref M.length :: r).map (ztr (zad g base)) = Value.ref H.size :: r.map (ztr (zad g base)) := by
    show Value.ref (zad g base M.length) :: _ = _
    rw [hR.new hl]
  rw [hq] at hz
  exact hz
theorem znewq_sim (hx : p.tables.exec = Jvm.exec) (hb : c.code = cc) (hts : ∀ w ∈ zW, w.before args s = true) (hown : s.vm.findClass (zcn own) = some m.cls) (hK : zKn D cy g base G X s) (hR : zR D cy g base G M H) {idx : Nat} {n : Int32} {r : List Value} (hnw : znew own idx = some 6) (hn : ¬ n < 0) (hN : n.toNatClampNeg ≤ 100000) (hl : M.length < zBig) (hc : cells + 1 ≤ R.cells) (hs : slots + n.toNatClampNeg ≤ R.slots) (hd : decode cc pc = .ok (.anewarray idx, 3))
    (kk : ∀ H', zR D cy g base G (M ++ [(13, List.replicate n.toNatClampNeg .null)]) H' → W p l e R s m args below meth c H' locs (cells + 1) (slots + n.toNatClampNeg) Q (F0 m (pc + 3) ls ((Value.ref M.length :: r).map (ztr (zad g base))))) : W p l e R s m args below meth c H locs cells slots Q (F0 m pc ls ((Value.int n :: r).map (ztr (zad g base)))) := by
  obtain ⟨-, hw, -, -⟩ := znew_ok hnw
  refine W.anew hx hb hown (hts _ hw) hK.2.2.2.2.2.2.2.2.2.use rfl hd rfl hn (Nat.le_trans (Nat.mul_le_mul hN (Nat.le_refl 4)) (Nat.le_of_ble_eq_true rfl)) hc hs fun cA kA comp f1 f2 f3 f4 => ?_
  obtain ⟨kA', comp', g1, g2, g3, g4⟩ := (hK.1.2 3 _ rfl).2
  have hcA : cA = cy 13 := Option.some.inj (f1.symm.trans g4)
  subst hcA
  have hz := kk (H.push { cls := cy 13, slots := Array.replicate n.toNatClampNeg .null, vm := .none }) (hR.push (by simp) (fun q hq => by rw [Array.getElem?_push, if_neg (Nat.ne_of_lt hq)]) (by
    unfold zat
    rw [if_neg (by show ¬ 13 < 10; omega)]
    rw [Array.getElem?_push_size, arrV_new]
    show _ = some (arrV (cy 13) (List.replicate n.toNatClampNeg Value.null).length (zf _ (List.replicate n.toNatClampNeg .null)))
    rw [List.length_replicate, zf_rep _ _ _ rfl]) hl)
  have hq : (Value.ref M.length :: r).map (ztr (zad g base)) = Value.ref H.size :: r.map (ztr (zad g base)) := by
    show Value.ref (zad g base M.length) :: _ = _
    rw [hR.new hl]
  rw [hq] at hz
  exact hz
theorem znew_sim (hx : p.tables.exec = Jvm.exec) (hb : c.code = cc) (hts : ∀ w ∈ zW, w.before args s = true) (hown : s.vm.findClass (zcn own) = some m.cls) (hK : zKn D cy g base G X s) (hR : zR D cy g base G M H) {idx ci : Nat} {r : List Value} (hnw : znew own idx = some ci) (hl : M.length < zBig) (hc : cells + 1 ≤ R.cells) (hs : slots + znf ci ≤ R.slots) (hd : decode cc pc = .ok (.new idx, 3))
    (kk : ∀ H', zR D cy g base G (M ++ [(ci, zdef ci)]) H' → W p l e R s m args below meth c H' locs (cells + 1) (slots + znf ci) Q (F0 m (pc + 3) ls ((Value.ref M.length :: r).map (ztr (zad g base))))) : W p l e R s m args below meth c H locs cells slots Q (F0 m pc ls (r.map (ztr (zad g base)))) := by
  obtain ⟨hci, w1, w2, w3⟩ := znew_ok hnw
  obtain ⟨hin, hty, hnm, hcl, -⟩ := zcls_ok hci
  have hKn := hK.1.1 ci _ hcl
  refine W.newcK hx hb hown (hts _ w1) (hts _ w2) (hts _ w3) rfl hd hc hs hKn.2.1 rfl fun H1 kC hkC e1 z1 o1 => ?_
  have hz := kk H1 (hR.push z1 o1 (by
    unfold zat
    rw [if_pos (by exact hci)]
    exact (u_born (zty ci) hts hin hKn hkC e1 hty).to (fun j hj => (zdef_at _ hj).symm)) hl)
  have hq : (Value.ref M.length :: r).map (ztr (zad g base)) = Value.ref H.size :: r.map (ztr (zad g base)) := by
    show Value.ref (zad g base M.length) :: _ = _
    rw [hR.new hl]
  rw [hq] at hz
  exact hz
theorem zmem_sim (hx : p.tables.exec = Jvm.exec) (hb : c.code = cc) (hts : ∀ w ∈ zW, w.before args s = true) (hown : s.vm.findClass (zcn own) = some m.cls) (hK : zKn D cy g base G X s) {ini : Bool} (hini : ini = true → meth.name = "<init>") (hR : zR D cy g base G M H) (hLo : zLo base locs) {i : Instr} {len n : Nat} {st st' : List Value} (hd : decode cc pc = .ok (i, len)) (h : zmem own ini X i st M = some (n, st', M')) (hn : n = len) (hc : cells + M'.length ≤ R.cells + M.length) (hs : slots + zsl M' ≤ R.slots + zsl M)
    (kk : ∀ H' locs' cells' slots', zR D cy g base G M' H' → zLo base locs' → cells' + M.length = cells + M'.length → slots' + zsl M = slots + zsl M' → W p l e R s m args below meth c H' locs' cells' slots' Q (F0 m (pc + len) ls (st'.map (ztr (zad g base))))) : W p l e R s m args below meth c H locs cells slots Q (F0 m pc ls (st.map (ztr (zad g base)))) := by
  subst hn
  unfold zmem at h
  split at h
  · split at h
    · split at h
      · rename_i hf _ _ ha
        rw [Option.map_eq_some_iff] at h
        obtain ⟨v, hv, hq⟩ := h
        cases hq
        exact zget_sim hx hb hts hown hK hR hf ha hv hd (kk H locs cells slots hR hLo rfl rfl)
      · cases h
    · cases h
  · split at h
    · split at h
      · rename_i hf _ vs ha
        split at h
        · rename_i hq
          cases h
          exact zput_sim hx hb hts hown hK hR hLo hf ha hq.1 hq.2.1 hq.2.2.1 (fun z => ⟨hini (hq.2.2.2 z).1, (hq.2.2.2 z).2⟩) hd (fun H' locs' g1 g2 => kk H' locs' cells slots g1 g2 (by rw [List.length_set]) (by rw [zsl_set (zarr_some ha) (by simp)]))
        · cases h
      · cases h
    · cases h
  · split at h
    · rename_i ha
      subst ha
      split at h
      · cases h
      · rename_i hq0
        have hq := fun z => hq0 (Or.inr z)
        cases h
        obtain ⟨scr, h1, h2, h3, h4, h5⟩ := hK.2.1
        have e1 : zad g base zBig = g 0 := zad_big g base 0
        refine W.iald (v := .int (X.getD _ 0)) hx hb (by rw [e1, hR.2.2.1 (g 0) hK.2.2.1]; exact h1) h2 h3 (by rw [h4]; exact hq) (h5 _ (Nat.not_le.mp fun z => hq (Or.inr z))) rfl rfl hd (kk H locs cells slots hR hLo rfl rfl)
    · rw [Option.map_eq_some_iff] at h
      obtain ⟨st1, hz, hq⟩ := h
      cases hq
      obtain ⟨j, a, r, vs, v, e0, ha, hin, hv, rfl⟩ := zald_inv hz
      rw [e0]
      exact W.iald (v := ztr (zad g base) v) hx hb (hR.arr (zarr_some ha) (by omega)) ((hK.1.2 0 _ rfl).1 _ _) (fun q => by cases q) (hR.in (a := a) hin) (by rw [arrV_read _ _ (Nat.not_le.mp fun z => hin (Or.inr z)), zf_at hv]) rfl rfl hd (kk H locs cells slots hR hLo rfl rfl)
  · rw [Option.map_eq_some_iff] at h
    obtain ⟨st1, hz, hq⟩ := h
    cases hq
    obtain ⟨j, a, r, vs, v, rfl, ha, hin, hv, rfl⟩ := zald_inv hz
    exact W.lald (v := ztr (zad g base) v) hx hb (hR.arr (zarr_some ha) (by omega)) ((hK.1.2 1 _ rfl).1 _ _) (fun q => by cases q) (hR.in (a := a) hin) (by rw [arrV_read _ _ (Nat.not_le.mp fun z => hin (Or.inr z)), zf_at hv]) rfl rfl hd (kk H locs cells slots hR hLo rfl rfl)
  · rw [Option.map_eq_some_iff] at h
    obtain ⟨st1, hz, hq⟩ := h
    cases hq
    obtain ⟨j, a, r, vs, v, rfl, ha, hin, hv, rfl⟩ := zald_inv hz
    exact W.zald (v := ztr (zad g base) v) hx hb (hR.arr (zarr_some ha) (by omega)) ((hK.1.2 2 _ rfl).1 _ _) (fun q => by cases q) (hR.in (a := a) hin) (by rw [arrV_read _ _ (Nat.not_le.mp fun z => hin (Or.inr z)), zf_at hv]) rfl rfl hd (kk H locs cells slots hR hLo rfl rfl)
  · rw [Option.map_eq_some_iff] at h
    obtain ⟨st1, hz, hq⟩ := h
    cases hq
    obtain ⟨j, a, r, vs, v, rfl, ha, hin, hv, rfl⟩ := zald_inv hz
    exact W.aald (v := ztr (zad g base) v) hx hb (hR.arr (zarr_some ha) (by omega)) ((hK.1.2 3 _ rfl).1 _ _) rfl (fun q => by cases q) (hR.in (a := a) hin) (by rw [arrV_read _ _ (Nat.not_le.mp fun z => hin (Or.inr z)), zf_at hv]) rfl rfl hd (kk H locs cells slots hR hLo rfl rfl)
  · rw [Option.map_eq_some_iff] at h
    obtain ⟨⟨st1, M1⟩, hz, hq⟩ := h
    cases hq
    obtain ⟨j, a, vs, rfl, ha, hin, rfl⟩ := zast_inv hz
    have hlt : j.toNatClampNeg < vs.length := Nat.not_le.mp fun z => hin (Or.inr z)
    exact W.iast hx hb (hR.arr (zarr_some ha) (by omega)) ((hK.1.2 0 _ rfl).1 _ _) (fun q => by cases q) (hR.in (a := a) hin) rfl rfl hd fun H1 e1 z oq => kk H1 _ cells slots (zarr_put hR (zarr_some ha) (by omega) hlt e1 z oq) (hLo.put (by rw [hR.ad (zarr_some ha)]; omega)) (by rw [List.length_set]) (by rw [zsl_set (zarr_some ha) (by simp)])
  · rw [Option.map_eq_some_iff] at h
    obtain ⟨⟨st1, M1⟩, hz, hq⟩ := h
    cases hq
    obtain ⟨j, a, vs, rfl, ha, hin, rfl⟩ := zast_inv hz
    have hlt : j.toNatClampNeg < vs.length := Nat.not_le.mp fun z => hin (Or.inr z)
    exact W.last hx hb (hR.arr (zarr_some ha) (by omega)) ((hK.1.2 1 _ rfl).1 _ _) (fun q => by cases q) (hR.in (a := a) hin) rfl rfl hd fun H1 e1 z oq => kk H1 _ cells slots (zarr_put hR (zarr_some ha) (by omega) hlt e1 z oq) (hLo.put (by rw [hR.ad (zarr_some ha)]; omega)) (by rw [List.length_set]) (by rw [zsl_set (zarr_some ha) (by simp)])
  · split at h
    · rename_i hnar
      rw [Option.map_eq_some_iff] at h
      obtain ⟨⟨st1, M1⟩, hz, hq⟩ := h
      cases hq
      obtain ⟨j, a, vs, rfl, ha, hin, rfl⟩ := zast_inv hz
      have hlt : j.toNatClampNeg < vs.length := Nat.not_le.mp fun z => hin (Or.inr z)
      exact W.zast hx hb (hR.arr (zarr_some ha) (by omega)) ((hK.1.2 2 _ rfl).1 _ _) (fun q => by cases q) (hR.in (a := a) hin) rfl rfl hd fun H1 e1 z oq => kk H1 _ cells slots (zarr_put (v := .int _) hR (zarr_some ha) (by omega) hlt (by rw [hnar] at e1; exact e1) z oq) (hLo.put (by rw [hR.ad (zarr_some ha)]; omega)) (by rw [List.length_set]) (by rw [zsl_set (zarr_some ha) (by simp)])
    · cases h
  · split at h
    · rename_i hsome
      obtain ⟨vs6, hv6⟩ := Option.isSome_iff_exists.mp hsome
      rw [Option.map_eq_some_iff] at h
      obtain ⟨⟨st1, M1⟩, hz, hq⟩ := h
      cases hq
      obtain ⟨j, a, vs, rfl, ha, hin, rfl⟩ := zast_inv hz
      have hlt : j.toNatClampNeg < vs.length := Nat.not_le.mp fun z => hin (Or.inr z)
      obtain ⟨cellV, q1, q2, q3, q4⟩ := hR.obj hv6 (by omega)
      have hcls := (hK.1.1 6 _ rfl).2
      obtain ⟨kA, comp, k1, k2, k3, -⟩ := (hK.1.2 3 _ rfl).2
      have hcomp : comp = D.1 6 := Option.some.inj (k3.symm.trans hcls.1)
      subst hcomp
      obtain ⟨kC, hkC, -⟩ := hcls.2
      exact W.aast hx hb (hR.arr (zarr_some ha) (by omega)) (fun q h => by cases h) (fun h => by cases h) k1 k2 rfl hkC ⟨fun q => hin (Or.inl q), by rw [arrV_size]; exact hlt⟩ q1 (fun q h => by rw [q3] at h; cases h) (by rw [q2]; exact hkC) (by rw [q2]; exact va_assign hcls) rfl rfl hd fun H1 e1 z oq => kk H1 _ cells slots (zarr_put (v := .ref _) hR (zarr_some ha) (by omega) hlt e1 z oq) (hLo.put (by rw [hR.ad (zarr_some ha)]; omega)) (by rw [List.length_set]) (by rw [zsl_set (zarr_some ha) (by simp)])
    · cases h
  · split at h
    · rename_i ha
      subst ha
      split at h
      · cases h
        obtain ⟨scr, h1, h2, h3, h4, h5⟩ := hK.2.1
        have e1 : zad g base zBig = g 0 := zad_big g base 0
        exact W.alen (n := Int32.ofNat X.length) hx hb (by rw [e1, hR.2.2.1 (g 0) hK.2.2.1]; exact h1) h2 (by rw [h4] <;> rfl) rfl rfl hd (kk H locs cells slots hR hLo rfl rfl)
      · cases h
    · split at h
      · rename_i kd vs ha
        split at h
        · rename_i hq
          cases h
          have hcell := hR.arr ha hq.1
          have ho : kd = 10 ∨ kd = 11 ∨ kd = 12 ∨ kd = 13 := by omega
          rcases ho with rfl | rfl | rfl | rfl
          · exact W.alen (n := Int32.ofNat vs.length) hx hb hcell ((hK.1.2 0 _ rfl).1 _ _) (by rw [arrV_size] <;> rfl) rfl rfl hd (kk H locs cells slots hR hLo rfl rfl)
          · exact W.alen (n := Int32.ofNat vs.length) hx hb hcell ((hK.1.2 1 _ rfl).1 _ _) (by rw [arrV_size] <;> rfl) rfl rfl hd (kk H locs cells slots hR hLo rfl rfl)
          · exact W.alen (n := Int32.ofNat vs.length) hx hb hcell ((hK.1.2 2 _ rfl).1 _ _) (by rw [arrV_size] <;> rfl) rfl rfl hd (kk H locs cells slots hR hLo rfl rfl)
          · exact W.alen (n := Int32.ofNat vs.length) hx hb hcell ((hK.1.2 3 _ rfl).1 _ _) (by rw [arrV_size] <;> rfl) rfl rfl hd (kk H locs cells slots hR hLo rfl rfl)
        · cases h
      · cases h
  · split at h
    · rename_i ci hnw
      split at h
      · rename_i hl
        cases h
        have hlen := List.length_append (as := M) (bs := [(ci, zdef ci)])
        have hsl := zsl_app M (ci, zdef ci)
        simp only [List.length_cons, List.length_nil] at hlen
        dsimp only at hsl
        rw [zdef_len] at hsl
        exact znew_sim hx hb hts hown hK hR hnw hl (by omega) (by omega) hd fun H' g1 => kk H' locs _ _ g1 hLo (by omega) (by omega)
      · cases h
    · cases h
  · split at h
    · rename_i kind v hat
      split at h
      · rename_i hq
        cases h
        have hlen := List.length_append (as := M) (bs := [(kind, List.replicate (Int32.toNatClampNeg ‹Int32›) v)])
        have hsl := zsl_app M (kind, List.replicate (Int32.toNatClampNeg ‹Int32›) v)
        simp only [List.length_cons, List.length_nil] at hlen
        dsimp only at hsl
        rw [List.length_replicate] at hsl
        unfold zaty at hat
        split at hat
        · cases hat
          exact znewa_sim (aty := .int) (t0 := 0) hx hb hK hR (hts _ zw_int) rfl (by omega) rfl rfl (fun C z => by cases z) hq.1 hq.2.1 hq.2.2 (by decide) (by omega) (by omega) hd fun H' g1 => kk H' locs _ _ g1 hLo (by omega) (by omega)
        · cases hat
          exact znewa_sim (aty := .long) (t0 := 1) hx hb hK hR (hts _ zw_long) rfl (by omega) rfl rfl (fun C z => by cases z) hq.1 hq.2.1 hq.2.2 (by decide) (by omega) (by omega) hd fun H' g1 => kk H' locs _ _ g1 hLo (by omega) (by omega)
        · cases hat
          exact znewa_sim (aty := .boolean) (t0 := 2) hx hb hK hR (hts _ zw_boolean) rfl (by omega) rfl rfl (fun C z => by cases z) hq.1 hq.2.1 hq.2.2 (by decide) (by omega) (by omega) hd fun H' g1 => kk H' locs _ _ g1 hLo (by omega) (by omega)
        · cases hat
      · cases h
    · cases h
  · split at h
    · rename_i hq
      cases h
      have hlen := List.length_append (as := M) (bs := [(13, List.replicate (Int32.toNatClampNeg ‹Int32›) Value.null)])
      have hsl := zsl_app M (13, List.replicate (Int32.toNatClampNeg ‹Int32›) Value.null)
      simp only [List.length_cons, List.length_nil] at hlen
      dsimp only at hsl
      rw [List.length_replicate] at hsl
      exact znewq_sim hx hb hts hown hK hR hq.1 hq.2.1 hq.2.2.1 hq.2.2.2 (by omega) (by omega) hd fun H' g1 => kk H' locs _ _ g1 hLo (by omega) (by omega)
    · cases h
  · split at h
    · rename_i hv
      cases h
      exact lv_ldc hx hb hown (hts _ (zldc_ok hv)) hd (kk H locs cells slots hR hLo rfl rfl)
    · split at h
      · rename_i k hk
        cases h
        have e1 : zad g base (zBig + 1 + k) = g (1 + k) := by rw [Nat.add_assoc]; exact zad_big g base (1 + k)
        have hz := kk H locs cells slots hR hLo rfl rfl
        have hq : (Value.ref (zBig + 1 + k) :: st).map (ztr (zad g base)) = Value.ref (g (1 + k)) :: st.map (ztr (zad g base)) := by
          show Value.ref (zad g base (zBig + 1 + k)) :: _ = _
          rw [e1]
        rw [hq] at hz
        unfold zstr at hk
        split at hk
        · cases hk
          exact va_ldcS hx hb hown (hK.2.2.2.2.1 0 (by omega)) hd hz
        · cases hk
          exact va_ldcS hx hb hown (hK.2.2.2.2.1 1 (by omega)) hd hz
        · cases hk
      · cases h
  · split at h
    · rename_i hv
      cases h
      exact lv_ldcw hx hb hown (hts _ (zldc_ok hv)) hd (kk H locs cells slots hR hLo rfl rfl)
    · cases h
  · split at h
    · rename_i hv
      cases h
      exact lv_ldc2 hx hb hown (hts _ (zldl_ok hv)) hd (kk H locs cells slots hR hLo rfl rfl)
    · cases h
  · cases h
end ZM3
