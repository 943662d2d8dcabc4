/-! the claim out of the ops (wip/safe/mkend.py) -/
/-- what holds between the ops holds at the start -/
theorem ZR_0 : ZR (zi zM0) := by
  have e12 : zi zM0 386 12 = 0 := by decide +kernel
  have e65 : zi zM0 386 65 = 0 := by decide +kernel
  have e402 : zi zM0 402 0 = 0 := by decide +kernel
  have e396 : zi zM0 396 0 = 0 := by decide +kernel
  have e388 : zi zM0 388 0 = 0 := by decide +kernel
  refine ⟨0, by rw [e12]; rfl, by decide, ⟨by decide, by rw [e402]; decide, fun k hk => ?_, by rw [e396]; decide, by rw [e396]; decide, fun d hd => ?_⟩, fun b hb => ?_, fun k hk => ?_⟩
  · rw [e402] at hk
    omega
  · rw [e396] at hd
    omega
  · rw [e388] at hb
    omega
  · rw [e65] at hk
    omega
theorem XI_0 : XI (zi zM0) := by
  have e1 : zi zM0 0 1 = 0 := by decide +kernel
  have e2 : zi zM0 386 1 = 0 := by decide +kernel
  refine ⟨⟨by rw [e1, e2], by rw [e1]; decide, fun k hk => by omega⟩, ?_, ⟨by decide +kernel, by decide +kernel⟩, by decide +kernel, fun k hk => absurd hk (by rw [show zi zM0 (zi zM0 0 3).toNat 1 = 0 by decide +kernel]; omega), by decide +kernel, fun k hk => absurd hk (by rw [show zi zM0 (zi zM0 0 3).toNat 2 = 0 by decide +kernel]; omega)⟩
  have h : ∀ k : Nat, k < 27 → zi zM0 3 k = W5 k := by decide +kernel
  exact h
theorem CI_0 : CI (zi zM0) := by
  have e77 : zi zM0 77 0 = 0 := by decide +kernel
  refine ⟨Or.inr ⟨by decide +kernel, by decide +kernel⟩, by decide +kernel, fun i hi hj => ?_⟩
  rw [e77] at hj
  omega
theorem zInv_mono {q : Nat} {M : zM} (h : zInv q M) : zInv (q + 1) M := ⟨zB_mono h.1 (Nat.le_add_right q 1), h.2⟩
theorem zInv_0 : zInv 0 zM0 := ⟨zB_0, ZR_0, CI_0, XI_0, 0, by decide, by decide, by decide +kernel, by decide +kernel⟩
theorem zend_all {X : List Int32} (hX : X.length ≤ 3072) : ∀ (n q : Nat) (M : zM), X.length ≤ 6 * q + 6 * n → q ≤ 513 → zInv q M → zEnd X 100 q M := by
  intro n
  induction n with
  | zero =>
    intro q M h1 h2 h3
    exact zlaw_out (by omega) hX (by omega) (by rw [zSh_len h3.1.1]; omega) (by rw [zSh_sl h3.1.1]; omega)
  | succ n ih =>
    intro q M h1 h2 h3
    by_cases h4 : X.length < 6 * q + 6
    · exact zlaw_out (by omega) hX h4 (by rw [zSh_len h3.1.1]; omega) (by rw [zSh_sl h3.1.1]; omega)
    · obtain ⟨vs, s1, s2, s3⟩ := zSh_get h3.1.1 zs_0
      refine zlaw_in hX (by omega) (by rw [s3]; rfl) (ih (q + 1) M (by omega) (by omega) (zInv_mono h3)) ?_
      intro k hk
      have fin : (∃ M2, zOpOK X 100 k (zrow X q) M M2 ∧ zInv (q + 1) M2) → ∃ M2, zOpOK X 100 k (zrow X q) M M2 ∧ zEnd X 100 (q + 1) M2 := by
        rintro ⟨M2, a1, a2⟩
        exact ⟨M2, a1, ih (q + 1) M2 (by omega) (by omega) a2⟩
      refine fin ?_
      match k, hk with
      | 0, _ => exact op_0 _ (by omega) h3
      | 1, _ => exact op_1 _ (by omega) h3
      | 2, _ => exact op_2 _ (by omega) h3
      | 3, _ => exact op_3 _ (by omega) h3
      | 4, _ => exact op_4 _ (by omega) h3
      | 5, _ => exact op_5 _ (by omega) h3
      | 6, _ => exact op_6 _ (by omega) h3
      | 7, _ => exact op_7 _ (by omega) h3
      | 8, _ => exact op_8 _ (by omega) h3
      | 9, _ => exact op_9 _ (by omega) h3
      | 10, _ => exact op_10 _ (by omega) h3
      | 11, _ => exact op_11 _ (by omega) h3
      | 12, _ => exact op_12 _ (by omega) h3
      | 13, _ => exact op_13 _ (by omega) h3
      | 14, _ => exact op_14 _ (by omega) h3
      | 15, _ => exact op_15 _ (by omega) h3
      | 16, _ => exact op_16 _ (by omega) h3
      | 17, _ => exact op_17 _ (by omega) h3
      | 18, _ => exact op_18 _ (by omega) h3
      | 19, _ => exact op_19 _ (by omega) h3
      | 20, _ => exact op_20 _ (by omega) h3
      | 21, _ => exact op_21 _ (by omega) h3
      | 22, _ => exact op_22 _ (by omega) h3
      | 23, _ => exact op_23 _ (by omega) h3
      | 24, _ => exact op_24 _ (by omega) h3
      | 25, _ => exact op_25 _ (by omega) h3
      | 26, _ => exact op_26 _ (by omega) h3
      | 27, _ => exact op_27 _ (by omega) h3
      | 28, _ => exact op_28 _ (by omega) h3
      | 29, _ => exact op_29 _ (by omega) h3
      | 30, _ => exact op_30 _ (by omega) h3
      | 31, _ => exact op_31 _ (by omega) h3
      | 32, _ => exact op_32 _ (by omega) h3
      | 33, _ => exact op_33 _ (by omega) h3
      | 34, _ => exact op_34 _ (by omega) h3
      | 35, _ => exact op_35 _ (by omega) h3
      | 36, _ => exact op_36 _ (by omega) h3
      | 37, _ => exact op_37 _ (by omega) h3
      | kk + 38, hh => exact absurd hh (by omega)
theorem whole_start {p : Program} {e : Env} {s : State} {m : MethodId} {below : List Frame} {meth : Method} {c : Code} (l : Launch) (hflags : l.flags = flags0) {b L : Nat} {xs : Nat → Int32} (hL : L ≤ 3072) (C0 : lw_At p s m meth c b L xs) : W p l e room_1 s m #[Value.ref b] below meth c s.heap [] 0 0 (lw_Z below #[Value.ref b] s) (entryFrame m ([Value.ref b] : List Value).toArray 4) := by
  obtain ⟨F, d, M, hd, hr, hM, hS⟩ := zlaw_begin (X := (List.range L).map xs) (dd := 100) (by omega) (by omega) (zend_all (by simp; exact hL) 513 0 zM0 (by simp; omega) (by omega) zInv_0)
  exact zlaw_start l C0 hd hr hM hS
set_option maxHeartbeats 4000000 in
theorem lw_walk (l : Launch) (hflags : l.flags = flags0) (b : Addr) (xs : List Int32) : MetFree l x (headSpec (Jvm.Cond.code x code maxLocals ret :: tables_1) room_1) (lw_P b xs) (fun _ _ _ _ _ => True) lw_Q := by
  refine MetFree.of_bodyS (code := code) (maxLocals := maxLocals) (ret := ret) (by decide) ?_ ?_
  · intro args s m h hn
    obtain ⟨meth, c, h1, h2, h3, h4, h5, h6, -, -⟩ := Cond.code_spec hn (atoms_spec (ws := Jvm.Cond.code x code maxLocals ret :: tables_1) h _ List.mem_cons_self)
    exact ⟨meth, c, h1, h2, h3, h4, h5, h6⟩
  · intro p e s m args below meth c s₁ B hml0 hP _
    obtain ⟨rfl, hx, hbd, hgv⟩ := hP
    obtain ⟨scr, harrAt, hlist, hof, hsmall⟩ := hx
    obtain ⟨hcb, hkn, -, -⟩ := State.arrayAt?_spec harrAt
    have hown : s.vm.findClass R_law = some m.cls := findClass_of_methodNamed B.named
    have hts0 : ∀ c ∈ (Jvm.Cond.code x code maxLocals ret :: tables_1), c.before #[Value.ref b] s = true := atoms_spec (ws := Jvm.Cond.code x code maxLocals ret :: tables_1) B.pre
    have hts : ∀ w ∈ lw_tbl, w.before #[Value.ref b] s = true := k2_hts_sels lw_privs (fun w hw => hts0 w (List.mem_cons_of_mem _ hw)) lw_privs_ok
    have hml : c.maxLocals = 4 := B.maxLocals_eq (hts0 _ List.mem_cons_self)
    have X₀ : Stand p l e room_1 s m #[Value.ref b] below meth c s₁ [] 0 0 := Stand.of_body B
    have hh0 : s₁.heap = s.heap := by rw [B.state]; rfl
    have hsz : scr.slots.size = xs.length := by rw [← Array.length_toList, hlist, List.length_map]
    have hval : ∀ j : Nat, j < xs.length → scr.slots[j]? = some (.int (xs.getD j 0)) := fun j hj => by
      rw [← Array.getElem?_toList, hlist]
      simp [hj]
    have hbl : b < s.heap.size := (Array.getElem?_eq_some_iff.mp hcb).1
    have hX : va_X b xs.length (fun j => xs.getD j 0) s s.heap := ⟨scr, hcb, hof, hkn, hsz, hval⟩
    have K : W p l e room_1 s m #[Value.ref b] below meth c s₁.heap [] 0 0 (lw_Z below #[Value.ref b] s) (entryFrame m ([Value.ref b] : List Value).toArray 4) := by
      rw [hh0]
      exact whole_start l hflags hbd ⟨B.exec, B.bytes, B.returns, hml, hown, hts, hX, hbl, B.notSynchronized, hgv⟩
    obtain ⟨t, a1, o, b1, b2, b3⟩ := K s₁ rfl X₀
    exact ⟨t, o, a1, b1, b2, b3⟩
theorem lw_pre_spec {args : Array Value} {s : State} (h : (Jvm.Cond.and given_1 narrow_1).before args s = true) (hr : rest_1_c.before args s = true) : ∃ (b : Addr) (xs : List Int32), lw_P b xs args s := by
  have hs := flat_of_before _ h
  have hq := flat_of_before _ hr
  have hc : (Cond.count 1).before args s = true := hs _ (by decide +kernel)
  have harr : (Cond.arrayOf (.arg 0) .int).before args s = true := hs _ (by decide +kernel)
  have hle : (Cond.le (.length (.arg 0)) (.int 3072)).before args s = true := hs _ (by decide +kernel)
  have hlen : (Cond.isInt (.length (.arg 0))).before args s = true := hq _ (by decide +kernel)
  have hall : (Cond.all (.arg 0) (.isInt (.elem (.arg 0) (.index 0)))).before args s = true := hq _ (by decide +kernel)
  obtain ⟨b, xs, hb, hx⟩ := State.ints_of_pre rfl harr hlen hall
  have hsm : xs.length < 2 ^ 31 := hx.choose_spec.2.2.2
  have hev : (Term.length (.arg 0)).eval args s none [] s = some (.int xs.length.toInt32) := hx.length_eval hb
  have hv := Cond.le_ints hev (show (Term.int 3072).eval args s none [] s = some (.int 3072) from rfl)
  have hd : xs.length.toInt32 ≤ 3072 := by
    simpa [Cond.before, Cond.holds, hv] using hle
  have hN : xs.length ≤ 3072 := (Int32.ofNat_le_ofNat hsm (by decide)).mp (show Int32.ofNat xs.length ≤ Int32.ofNat 3072 from hd)
  exact ⟨b, xs, Cond.one_arg hc (show args[0]? = some (.ref b) from hb), hx, hN, h⟩
theorem lw_comes (l : Launch) (hflags : l.flags = flags0) : Comes l x (Jvm.Cond.code x code maxLocals ret :: tables_1) room_1 (fun tb e args s => Calls_1 tb e args s ∧ rest_1 tb e args s ∧ Pre_1 tb e args s)
    (fun _ _ args s o t => lw_Q args s o t) := by
  intro p e ha hc hk s m args below hf hfit hheap happ hpre
  obtain ⟨b, xs, hP⟩ := lw_pre_spec hpre.2.2 hpre.2.1
  obtain ⟨k, o, h1, h2, h3, hQ⟩ := lw_walk l hflags b xs p e ha hc hk s m args below hf ((Spec.applies_iff_loose hf).mp happ).1 hP trivial
  exact ⟨k, o, h1, h2, h3, hQ⟩
theorem lw_frame {s t : State} {o : Outcome} {args : Array Value} (h : Framed s o t [] 600000 7302250) :
    Framed s o t (fieldLocs frame_1_writes args s ++ arrayLocs frame_1_arrays args s ++ staticLocs frame_1_statics s) 600000 7302250 := h
theorem lw_limb (L : Cond) (hL : ∀ (args : Array Value) (s t : State), L.after args s (.returned (some (.int 1))) t = true) :
    ArmFor flags0 classFile x code maxLocals ret World_1 tables_1 room_1 Calls_1 rest_1 Pre_1
      (fun tb e a s o t => postC L tb e a s o t ∧ Framed s o t (fieldLocs frame_1_writes a s ++ arrayLocs frame_1_arrays a s ++ staticLocs frame_1_statics s) 600000 7302250) := by
  intro l hflags _ _ p e ha hc hk s m args below hf hfit hheap happ hpre
  obtain ⟨k, o, h1, h2, h3, rfl, hF⟩ := lw_comes l hflags p e ha hc hk s m args below hf hfit hheap happ hpre
  exact ⟨k, _, h1, h2, h3, hL args s _, lw_frame hF⟩
theorem i_vc : Claimed_1_1 ∧ Claimed_1_2 := ⟨lw_limb limb_1_1 (fun args s t => by simp [limb_1_1, Cond.after, Cond.holds, Cond.value]), lw_limb limb_1_2 (fun args s t => Cond.after_iff.mpr (by
  first | (rw [show limb_1_2 = Cond.eq .result (.int 1) from rfl, Cond.eq_ints (x := 1) (y := 1) rfl rfl]; simp; done) | (simp [limb_1_2, Cond.value, Term.eval]; done)))⟩

