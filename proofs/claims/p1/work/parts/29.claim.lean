/-! the claim of p1 out of the first call (wip/p1/mk24.py) -/
theorem zp_op {X : List Int32} {a : Nat → Int32} {k jc jm : Nat} {sp : List (Nat × Bool)} (hk : zops[k]? = some (jc, jm, sp)) (h : ∃ (v : Int32) (M1 M2 : zM), ZC [] 11 jc (.ref 0 :: zopA sp a) zM0 (some (.int v), M1) ∧ ZC [] 11 jm (.ref 386 :: zopA sp a) M1 (some (.int v), M2) ∧ zSh M1 ∧ zSh M2) : ∃ M2, zOpOK X 11 k a zM0 M2 ∧ zSh M2 := by
  obtain ⟨v, M1, M2, h1, h2, h3, h4⟩ := h
  refine ⟨M2, ?_, h4⟩
  intro jc' jm' sp' h'
  rw [hk] at h'
  cases h'
  obtain ⟨vs, g1, g2, g3⟩ := zSh_get h3 (a := 386) (kind := 9) (n := 82) rfl
  exact ⟨v, M1, by rw [g3]; rfl, h1.X, h2.X⟩
theorem zp_all {X : List Int32} (a : Nat → Int32) : ∀ k, k < 38 → ∃ M2, zOpOK X 11 k a zM0 M2 ∧ zSh M2 := by
  intro k hk
  match k, hk with
  | 0, _ => exact zp_op rfl (zp_0 (zbl false (a 1)) (zbl false (a 2)) (zbl false (a 3)) (zbl false (a 4)) (zbl false (a 5)))
  | 1, _ => exact zp_op rfl (zp_1 (zbl false (a 1)))
  | 2, _ => exact zp_op rfl (zp_2)
  | 3, _ => exact zp_op rfl (zp_3 (zbl false (a 1)))
  | 4, _ => exact zp_op rfl (zp_4 (zbl false (a 1)))
  | 5, _ => exact zp_op rfl (zp_5 (zbl false (a 1)) (zbl false (a 2)) (zbl false (a 3)))
  | 6, _ => exact zp_op rfl (zp_6 (zbl false (a 1)) (zbl false (a 2)))
  | 7, _ => exact zp_op rfl (zp_7 (zbl false (a 1)))
  | 8, _ => exact zp_op rfl (zp_8 (zbl false (a 1)) (zbl false (a 2)))
  | 9, _ => exact zp_op rfl (zp_9 (zbl false (a 1)) (zbl false (a 2)))
  | 10, _ => exact zp_op rfl (zp_10 (zbl false (a 1)) (zbl false (a 2)))
  | 11, _ => exact zp_op rfl (zp_11 (zbl false (a 1)) (zbl false (a 2)) (zbl true (a 3)))
  | 12, _ => exact zp_op rfl (zp_12 (zbl false (a 1)))
  | 13, _ => exact zp_op rfl (zp_13 (zbl false (a 1)) (zbl false (a 2)))
  | 14, _ => exact zp_op rfl (zp_14 (zbl false (a 1)) (zbl true (a 2)))
  | 15, _ => exact zp_op rfl (zp_15 (zbl false (a 1)) (zbl true (a 2)))
  | 16, _ => exact zp_op rfl (zp_16 (zbl false (a 1)) (zbl false (a 2)))
  | 17, _ => exact zp_op rfl (zp_17 (zbl false (a 1)) (zbl false (a 2)))
  | 18, _ => exact zp_op rfl (zp_18)
  | 19, _ => exact zp_op rfl (zp_19 (zbl false (a 1)))
  | 20, _ => exact zp_op rfl (zp_20 (zbl false (a 1)) (zbl false (a 2)) (zbl false (a 3)))
  | 21, _ => exact zp_op rfl (zp_21 (zbl false (a 1)) (zbl false (a 2)))
  | 22, _ => exact zp_op rfl (zp_22 (zbl false (a 1)) (zbl false (a 2)))
  | 23, _ => exact zp_op rfl (zp_23)
  | 24, _ => exact zp_op rfl (zp_24 (zbl false (a 1)))
  | 25, _ => exact zp_op rfl (zp_25 (zbl false (a 1)))
  | 26, _ => exact zp_op rfl (zp_26)
  | 27, _ => exact zp_op rfl (zp_27 (zbl false (a 1)))
  | 28, _ => exact zp_op rfl (zp_28)
  | 29, _ => exact zp_op rfl (zp_29 (zbl false (a 1)) (zbl false (a 2)))
  | 30, _ => exact zp_op rfl (zp_30 (zbl false (a 1)) (zbl false (a 2)))
  | 31, _ => exact zp_op rfl (zp_31 (zbl false (a 1)))
  | 32, _ => exact zp_op rfl (zp_32 (zbl false (a 1)) (zbl false (a 2)))
  | 33, _ => exact zp_op rfl (zp_33 (zbl false (a 1)) (zbl false (a 2)) (zbl false (a 3)))
  | 34, _ => exact zp_op rfl (zp_34)
  | 35, _ => exact zp_op rfl (zp_35 (zbl false (a 1)))
  | 36, _ => exact zp_op rfl (zp_36)
  | 37, _ => exact zp_op rfl (zp_37 (zbl false (a 1)))
  | kk + 38, hh => exact absurd hh (by omega)
theorem zp_end {X : List Int32} (hX : X.length ≤ 6) : zEnd X 11 0 zM0 := by
  have hout : ∀ M, zSh M → zEnd X 11 1 M := fun M h => zlaw_out (by omega) (by omega) (by omega) (by rw [zSh_len h]; omega) (by rw [zSh_sl h]; omega)
  by_cases h6 : X.length < 6
  · exact zlaw_out (by omega) (by omega) (by omega) (by rw [zSh_len zSh_0]; omega) (by rw [zSh_sl zSh_0]; omega)
  · obtain ⟨vs, g1, g2, g3⟩ := zSh_get zSh_0 (a := 0) (kind := 8) (n := 16) rfl
    refine zlaw_in (by omega) (by omega) (by rw [g3]; rfl) (hout _ zSh_0) ?_
    intro k hk
    obtain ⟨M2, h1, h2⟩ := zp_all (X := X) (zrow X 0) k hk
    exact ⟨M2, h1, hout _ h2⟩
theorem whole_start {p : Program} {e : Env} {s : State} {m : MethodId} {below : List Frame} {meth : Method} {c : Code} (l : Launch) (hflags : l.flags = flags0) {b L : Nat} {xs : Nat → Int32} (hL : L ≤ 6) (C0 : lw_At p s m meth c b L xs) : W p l e room_1 s m #[Value.ref b] below meth c s.heap [] 0 0 (lw_Z below #[Value.ref b] s) (entryFrame m ([Value.ref b] : List Value).toArray 4) := by
  obtain ⟨F, d, M, hd, hr, hM, hS⟩ := zlaw_begin (X := (List.range L).map xs) (zp_end (by simp; exact hL))
  exact zlaw_start l C0 hd hr hM hS
set_option maxHeartbeats 4000000 in
theorem lw_walk (l : Launch) (hflags : l.flags = flags0) (b : Addr) (xs : List Int32) : MetFree l x (headSpec (Jvm.Cond.code x code maxLocals ret :: tables_1) room_1) (lw_P b xs) (fun _ _ _ _ _ => True) lw_Q := by
  refine MetFree.of_bodyS (code := code) (maxLocals := maxLocals) (ret := ret) (by decide) ?_ ?_
  · intro args s m h hn
    obtain ⟨meth, c, h1, h2, h3, h4, h5, h6, -, -⟩ := Cond.code_spec hn (atoms_spec (ws := Jvm.Cond.code x code maxLocals ret :: tables_1) h _ List.mem_cons_self)
    exact ⟨meth, c, h1, h2, h3, h4, h5, h6⟩
  · intro p e s m args below meth c s₁ B hml0 hP _
    obtain ⟨rfl, hx, hbd, hgv⟩ := hP
    obtain ⟨scr, harrAt, hlist, hof, hsmall⟩ := hx
    obtain ⟨hcb, hkn, -, -⟩ := State.arrayAt?_spec harrAt
    have hown : s.vm.findClass R_law = some m.cls := findClass_of_methodNamed B.named
    have hts0 : ∀ c ∈ (Jvm.Cond.code x code maxLocals ret :: tables_1), c.before #[Value.ref b] s = true := atoms_spec (ws := Jvm.Cond.code x code maxLocals ret :: tables_1) B.pre
    have hts : ∀ w ∈ lw_tbl, w.before #[Value.ref b] s = true := k2_hts_sels lw_privs (fun w hw => hts0 w (List.mem_cons_of_mem _ hw)) lw_privs_ok
    have hml : c.maxLocals = 4 := B.maxLocals_eq (hts0 _ List.mem_cons_self)
    have X₀ : Stand p l e room_1 s m #[Value.ref b] below meth c s₁ [] 0 0 := Stand.of_body B
    have hh0 : s₁.heap = s.heap := by rw [B.state]; rfl
    have hsz : scr.slots.size = xs.length := by rw [← Array.length_toList, hlist, List.length_map]
    have hval : ∀ j : Nat, j < xs.length → scr.slots[j]? = some (.int (xs.getD j 0)) := fun j hj => by
      rw [← Array.getElem?_toList, hlist]
      simp [hj]
    have hbl : b < s.heap.size := (Array.getElem?_eq_some_iff.mp hcb).1
    have hX : va_X b xs.length (fun j => xs.getD j 0) s s.heap := ⟨scr, hcb, hof, hkn, hsz, hval⟩
    have K : W p l e room_1 s m #[Value.ref b] below meth c s₁.heap [] 0 0 (lw_Z below #[Value.ref b] s) (entryFrame m ([Value.ref b] : List Value).toArray 4) := by
      rw [hh0]
      exact whole_start l hflags hbd ⟨B.exec, B.bytes, B.returns, hml, hown, hts, hX, hbl, B.notSynchronized, hgv⟩
    obtain ⟨t, a1, o, b1, b2, b3⟩ := K s₁ rfl X₀
    exact ⟨t, o, a1, b1, b2, b3⟩
theorem lw_pre_spec {args : Array Value} {s : State} (h : (Jvm.Cond.and given_1 narrow_1).before args s = true) (hr : rest_1_c.before args s = true) : ∃ (b : Addr) (xs : List Int32), lw_P b xs args s := by
  have hs := flat_of_before _ h
  have hq := flat_of_before _ hr
  have hc : (Cond.count 1).before args s = true := hs _ (by decide +kernel)
  have harr : (Cond.arrayOf (.arg 0) .int).before args s = true := hs _ (by decide +kernel)
  have hle : (Cond.le (.length (.arg 0)) (.int 6)).before args s = true := hs _ (by decide +kernel)
  have hlen : (Cond.isInt (.length (.arg 0))).before args s = true := hq _ (by decide +kernel)
  have hall : (Cond.all (.arg 0) (.isInt (.elem (.arg 0) (.index 0)))).before args s = true := hq _ (by decide +kernel)
  obtain ⟨b, xs, hb, hx⟩ := State.ints_of_pre rfl harr hlen hall
  have hsm : xs.length < 2 ^ 31 := hx.choose_spec.2.2.2
  have hev : (Term.length (.arg 0)).eval args s none [] s = some (.int xs.length.toInt32) := hx.length_eval hb
  have hv := Cond.le_ints hev (show (Term.int 6).eval args s none [] s = some (.int 6) from rfl)
  have hd : xs.length.toInt32 ≤ 6 := by
    simpa [Cond.before, Cond.holds, hv] using hle
  have hN : xs.length ≤ 6 := (Int32.ofNat_le_ofNat hsm (by decide)).mp (show Int32.ofNat xs.length ≤ Int32.ofNat 6 from hd)
  exact ⟨b, xs, Cond.one_arg hc (show args[0]? = some (.ref b) from hb), hx, hN, h⟩
theorem lw_comes (l : Launch) (hflags : l.flags = flags0) : Comes l x (Jvm.Cond.code x code maxLocals ret :: tables_1) room_1 (fun tb e args s => Calls_1 tb e args s ∧ rest_1 tb e args s ∧ Pre_1 tb e args s)
    (fun _ _ args s o t => lw_Q args s o t) := by
  intro p e ha hc hk s m args below hf hfit hheap happ hpre
  obtain ⟨b, xs, hP⟩ := lw_pre_spec hpre.2.2 hpre.2.1
  obtain ⟨k, o, h1, h2, h3, hQ⟩ := lw_walk l hflags b xs p e ha hc hk s m args below hf ((Spec.applies_iff_loose hf).mp happ).1 hP trivial
  exact ⟨k, o, h1, h2, h3, hQ⟩
theorem lw_frame {s t : State} {o : Outcome} {args : Array Value} (h : Framed s o t [] 600000 7302250) :
    Framed s o t (fieldLocs frame_1_writes args s ++ arrayLocs frame_1_arrays args s ++ staticLocs frame_1_statics s) 600000 7302250 := h
theorem lw_limb (L : Cond) (hL : ∀ (args : Array Value) (s t : State), L.after args s (.returned (some (.int 1))) t = true) :
    ArmFor flags0 classFile x code maxLocals ret World_1 tables_1 room_1 Calls_1 rest_1 Pre_1
      (fun tb e a s o t => postC L tb e a s o t ∧ Framed s o t (fieldLocs frame_1_writes a s ++ arrayLocs frame_1_arrays a s ++ staticLocs frame_1_statics s) 600000 7302250) := by
  intro l hflags _ _ p e ha hc hk s m args below hf hfit hheap happ hpre
  obtain ⟨k, o, h1, h2, h3, rfl, hF⟩ := lw_comes l hflags p e ha hc hk s m args below hf hfit hheap happ hpre
  exact ⟨k, _, h1, h2, h3, hL args s _, lw_frame hF⟩
theorem i_vc : Claimed_1_1 ∧ Claimed_1_2 := ⟨lw_limb limb_1_1 (fun args s t => by simp [limb_1_1, Cond.after, Cond.holds, Cond.value]), lw_limb limb_1_2 (fun args s t => Cond.after_iff.mpr (by
  first | (rw [show limb_1_2 = Cond.eq .result (.int 1) from rfl, Cond.eq_ints (x := 1) (y := 1) rfl rfl]; simp; done) | (simp [limb_1_2, Cond.value, Term.eval]; done)))⟩

