/-! the law's decode rows (wip/p2/mk20.py) -/
/-! by what stands from a byte on (wip/p2/declaw.py) -/
/-- what stands in the code from byte p on -/
def zsf (c : ByteArray) (p : Nat) (l : List UInt8) : Prop := c.data.toList.drop p = l
theorem zsf_t {c : ByteArray} {p : Nat} {a : UInt8} {l : List UInt8} (h : zsf c p (a :: l)) : zsf c (p + 1) l := by
  unfold zsf at h ⊢
  rw [← List.drop_drop, h]
  rfl
theorem zsf_t2 {c : ByteArray} {p : Nat} {a b : UInt8} {l : List UInt8} (h : zsf c p (a :: b :: l)) : zsf c (p + 2) l := zsf_t (zsf_t h)
theorem zsf_t3 {c : ByteArray} {p : Nat} {a b d : UInt8} {l : List UInt8} (h : zsf c p (a :: b :: d :: l)) : zsf c (p + 3) l := zsf_t (zsf_t2 h)
theorem zsf_lt {c : ByteArray} {p : Nat} {a : UInt8} {l : List UInt8} (h : zsf c p (a :: l)) : p < c.size := by
  unfold zsf at h
  have e := congrArg List.length h
  rw [List.length_drop, List.length_cons, Array.length_toList] at e
  show p < c.data.size
  omega
theorem zsf_get {c : ByteArray} {p : Nat} {a : UInt8} {l : List UInt8} (h : zsf c p (a :: l)) (hp : p < c.size) : c[p] = a := by
  have hp2 : p < c.data.toList.length := by
    rw [Array.length_toList]
    exact hp
  unfold zsf at h
  rw [List.drop_eq_getElem_cons hp2] at h
  have e := (List.cons.inj h).1
  rw [← e]
  rfl
theorem zu1 {c : ByteArray} {p : Nat} {a : UInt8} {l : List UInt8} (h : zsf c p (a :: l)) : Reader.runAt (Reader.u1 : Decoder Nat) c p = .ok (a.toNat, p + 1) := by
  have hp := zsf_lt h
  have e : Reader.runAt (Reader.u1 : Decoder Nat) c p = (if h : p < c.size then (do set (p + 1); pure c[p].toNat : Decoder Nat) else throw (HasTruncated.truncated p)) c p := rfl
  rw [e, dif_pos hp]
  show Except.ok (c[p].toNat, p + 1) = _
  rw [zsf_get h hp]
theorem zrb {α β : Type} (r : Decoder α) (k : α → Decoder β) (c : ByteArray) (p : Nat) {x : α} {q : Nat} (h : Reader.runAt r c p = .ok (x, q)) : Reader.runAt (r >>= k) c p = Reader.runAt (k x) c q := by
  show (Reader.runAt r c p >>= fun y => Reader.runAt (k y.1) c y.2) = _
  rw [h]
  rfl
theorem zu2 {c : ByteArray} {p : Nat} {a b : UInt8} {l : List UInt8} (h : zsf c p (a :: b :: l)) : Reader.runAt (Reader.u2 : Decoder Nat) c p = .ok (a.toNat * 256 + b.toNat, p + 2) := by
  unfold Reader.u2
  rw [zrb _ _ _ _ (zu1 h), zrb _ _ _ _ (zu1 (zsf_t h))]
  rfl
theorem zs1 {c : ByteArray} {p : Nat} {a : UInt8} {l : List UInt8} (h : zsf c p (a :: l)) : Reader.runAt (Reader.s1 : Decoder Int) c p = .ok (Reader.signed 8 a.toNat, p + 1) := by
  show Reader.runAt ((Reader.u1 : Decoder Nat) >>= fun x => pure (Reader.signed 8 x)) c p = _
  rw [zrb _ _ _ _ (zu1 h)]
  rfl
theorem zs2 {c : ByteArray} {p : Nat} {a b : UInt8} {l : List UInt8} (h : zsf c p (a :: b :: l)) : Reader.runAt (Reader.s2 : Decoder Int) c p = .ok (Reader.signed 16 (a.toNat * 256 + b.toNat), p + 2) := by
  show Reader.runAt ((Reader.u2 : Decoder Nat) >>= fun x => pure (Reader.signed 16 x)) c p = _
  rw [zrb _ _ _ _ (zu2 h)]
  rfl
theorem zgp {k n : Nat} (h : n + 1 ≤ 2 ^ (k - 1)) : Reader.signed k n = (n : Int) := if_pos h
theorem zgn8 {n m : Nat} (e : n + m = 256) (h : m ≤ 128) : Reader.signed 8 n = -(m : Int) := by
  show (if n < 128 then (n : Int) else (n : Int) - ((256 : Nat) : Int)) = _
  rw [if_neg (by omega)]
  omega
theorem zgn16 {n m : Nat} (e : n + m = 65536) (h : m ≤ 32768) : Reader.signed 16 n = -(m : Int) := by
  show (if n < 32768 then (n : Int) else (n : Int) - ((65536 : Nat) : Int)) = _
  rw [if_neg (by omega)]
  omega
theorem zdc {c : ByteArray} {p q : Nat} {i : Instr} (h : Reader.runAt (Decoder.instr p) c p = .ok (i, p + q)) : decode c p = .ok (i, q) := by
  unfold decode
  rw [h]
  show Except.ok (i, p + q - p) = _
  rw [Nat.add_sub_cancel_left]
theorem ze_3 {c : ByteArray} {p : Nat} {l : List UInt8} (h : zsf c p (3 :: l)) : decode c p = .ok (.iconst 0, 1) := by
  refine zdc ?_
  unfold Decoder.instr
  rw [zrb _ _ _ _ (zu1 h)]
  rfl
theorem ze_4 {c : ByteArray} {p : Nat} {l : List UInt8} (h : zsf c p (4 :: l)) : decode c p = .ok (.iconst 1, 1) := by
  refine zdc ?_
  unfold Decoder.instr
  rw [zrb _ _ _ _ (zu1 h)]
  rfl
theorem ze_5 {c : ByteArray} {p : Nat} {l : List UInt8} (h : zsf c p (5 :: l)) : decode c p = .ok (.iconst 2, 1) := by
  refine zdc ?_
  unfold Decoder.instr
  rw [zrb _ _ _ _ (zu1 h)]
  rfl
theorem ze_6 {c : ByteArray} {p : Nat} {l : List UInt8} (h : zsf c p (6 :: l)) : decode c p = .ok (.iconst 3, 1) := by
  refine zdc ?_
  unfold Decoder.instr
  rw [zrb _ _ _ _ (zu1 h)]
  rfl
theorem ze_7 {c : ByteArray} {p : Nat} {l : List UInt8} (h : zsf c p (7 :: l)) : decode c p = .ok (.iconst 4, 1) := by
  refine zdc ?_
  unfold Decoder.instr
  rw [zrb _ _ _ _ (zu1 h)]
  rfl
theorem ze_8 {c : ByteArray} {p : Nat} {l : List UInt8} (h : zsf c p (8 :: l)) : decode c p = .ok (.iconst 5, 1) := by
  refine zdc ?_
  unfold Decoder.instr
  rw [zrb _ _ _ _ (zu1 h)]
  rfl
theorem ze_16 {c : ByteArray} {p : Nat} {a : UInt8} {l : List UInt8} (h : zsf c p (16 :: a :: l)) {u : Nat} (e : a.toNat = u) (f : u + 1 ≤ 128) : decode c p = .ok (.bipush (u : Int), 2) := by
  refine zdc ?_
  unfold Decoder.instr
  rw [zrb _ _ _ _ (zu1 h)]
  show Reader.runAt ((Reader.s1 : Decoder Int) >>= fun x => pure (Instr.bipush x)) c (p + 1) = _
  rw [zrb _ _ _ _ (zs1 (zsf_t h)), e, zgp f]
  rfl
theorem ze_16n {c : ByteArray} {p : Nat} {a : UInt8} {l : List UInt8} (h : zsf c p (16 :: a :: l)) {u : Nat} (e : a.toNat + u = 256) (f : u ≤ 128) : decode c p = .ok (.bipush (-(u : Int)), 2) := by
  refine zdc ?_
  unfold Decoder.instr
  rw [zrb _ _ _ _ (zu1 h)]
  show Reader.runAt ((Reader.s1 : Decoder Int) >>= fun x => pure (Instr.bipush x)) c (p + 1) = _
  rw [zrb _ _ _ _ (zs1 (zsf_t h)), zgn8 e f]
  rfl
theorem ze_29 {c : ByteArray} {p : Nat} {l : List UInt8} (h : zsf c p (29 :: l)) : decode c p = .ok (.iload_n 3, 1) := by
  refine zdc ?_
  unfold Decoder.instr
  rw [zrb _ _ _ _ (zu1 h)]
  rfl
theorem ze_42 {c : ByteArray} {p : Nat} {l : List UInt8} (h : zsf c p (42 :: l)) : decode c p = .ok (.aload_n 0, 1) := by
  refine zdc ?_
  unfold Decoder.instr
  rw [zrb _ _ _ _ (zu1 h)]
  rfl
theorem ze_43 {c : ByteArray} {p : Nat} {l : List UInt8} (h : zsf c p (43 :: l)) : decode c p = .ok (.aload_n 1, 1) := by
  refine zdc ?_
  unfold Decoder.instr
  rw [zrb _ _ _ _ (zu1 h)]
  rfl
theorem ze_44 {c : ByteArray} {p : Nat} {l : List UInt8} (h : zsf c p (44 :: l)) : decode c p = .ok (.aload_n 2, 1) := by
  refine zdc ?_
  unfold Decoder.instr
  rw [zrb _ _ _ _ (zu1 h)]
  rfl
theorem ze_46 {c : ByteArray} {p : Nat} {l : List UInt8} (h : zsf c p (46 :: l)) : decode c p = .ok (.iaload, 1) := by
  refine zdc ?_
  unfold Decoder.instr
  rw [zrb _ _ _ _ (zu1 h)]
  rfl
theorem ze_62 {c : ByteArray} {p : Nat} {l : List UInt8} (h : zsf c p (62 :: l)) : decode c p = .ok (.istore_n 3, 1) := by
  refine zdc ?_
  unfold Decoder.instr
  rw [zrb _ _ _ _ (zu1 h)]
  rfl
theorem ze_76 {c : ByteArray} {p : Nat} {l : List UInt8} (h : zsf c p (76 :: l)) : decode c p = .ok (.astore_n 1, 1) := by
  refine zdc ?_
  unfold Decoder.instr
  rw [zrb _ _ _ _ (zu1 h)]
  rfl
theorem ze_77 {c : ByteArray} {p : Nat} {l : List UInt8} (h : zsf c p (77 :: l)) : decode c p = .ok (.astore_n 2, 1) := by
  refine zdc ?_
  unfold Decoder.instr
  rw [zrb _ _ _ _ (zu1 h)]
  rfl
theorem ze_87 {c : ByteArray} {p : Nat} {l : List UInt8} (h : zsf c p (87 :: l)) : decode c p = .ok (.pop, 1) := by
  refine zdc ?_
  unfold Decoder.instr
  rw [zrb _ _ _ _ (zu1 h)]
  rfl
theorem ze_89 {c : ByteArray} {p : Nat} {l : List UInt8} (h : zsf c p (89 :: l)) : decode c p = .ok (.dup, 1) := by
  refine zdc ?_
  unfold Decoder.instr
  rw [zrb _ _ _ _ (zu1 h)]
  rfl
theorem ze_96 {c : ByteArray} {p : Nat} {l : List UInt8} (h : zsf c p (96 :: l)) : decode c p = .ok (.iadd, 1) := by
  refine zdc ?_
  unfold Decoder.instr
  rw [zrb _ _ _ _ (zu1 h)]
  rfl
theorem ze_100 {c : ByteArray} {p : Nat} {l : List UInt8} (h : zsf c p (100 :: l)) : decode c p = .ok (.isub, 1) := by
  refine zdc ?_
  unfold Decoder.instr
  rw [zrb _ _ _ _ (zu1 h)]
  rfl
theorem ze_126 {c : ByteArray} {p : Nat} {l : List UInt8} (h : zsf c p (126 :: l)) : decode c p = .ok (.iand, 1) := by
  refine zdc ?_
  unfold Decoder.instr
  rw [zrb _ _ _ _ (zu1 h)]
  rfl
theorem ze_132 {c : ByteArray} {p : Nat} {a b : UInt8} {l : List UInt8} (h : zsf c p (132 :: a :: b :: l)) {u : Nat} {v : Int} (e : a.toNat = u) (f : Reader.signed 8 b.toNat = v) : decode c p = .ok (.iinc u v, 3) := by
  refine zdc ?_
  unfold Decoder.instr
  rw [zrb _ _ _ _ (zu1 h)]
  show Reader.runAt ((Reader.u1 : Decoder Nat) >>= fun x => (Reader.s1 : Decoder Int) >>= fun y => pure (Instr.iinc x y)) c (p + 1) = _
  rw [zrb _ _ _ _ (zu1 (zsf_t h)), zrb _ _ _ _ (zs1 (zsf_t2 h)), e, f]
  rfl
theorem ze_153 {c : ByteArray} {p : Nat} {a b : UInt8} {l : List UInt8} (h : zsf c p (153 :: a :: b :: l)) {u : Nat} (e : a.toNat * 256 + b.toNat = u) (f : u + 1 ≤ 32768) : decode c p = .ok (.ifCond .eq (u : Int), 3) := by
  refine zdc ?_
  unfold Decoder.instr
  rw [zrb _ _ _ _ (zu1 h)]
  show Reader.runAt ((Reader.s2 : Decoder Int) >>= fun x => pure (Instr.ifCond .eq x)) c (p + 1) = _
  rw [zrb _ _ _ _ (zs2 (zsf_t h)), e, zgp f]
  rfl
theorem ze_153n {c : ByteArray} {p : Nat} {a b : UInt8} {l : List UInt8} (h : zsf c p (153 :: a :: b :: l)) {u : Nat} (e : a.toNat * 256 + b.toNat + u = 65536) (f : u ≤ 32768) : decode c p = .ok (.ifCond .eq (-(u : Int)), 3) := by
  refine zdc ?_
  unfold Decoder.instr
  rw [zrb _ _ _ _ (zu1 h)]
  show Reader.runAt ((Reader.s2 : Decoder Int) >>= fun x => pure (Instr.ifCond .eq x)) c (p + 1) = _
  rw [zrb _ _ _ _ (zs2 (zsf_t h)), zgn16 e f]
  rfl
theorem ze_159 {c : ByteArray} {p : Nat} {a b : UInt8} {l : List UInt8} (h : zsf c p (159 :: a :: b :: l)) {u : Nat} (e : a.toNat * 256 + b.toNat = u) (f : u + 1 ≤ 32768) : decode c p = .ok (.if_icmp .eq (u : Int), 3) := by
  refine zdc ?_
  unfold Decoder.instr
  rw [zrb _ _ _ _ (zu1 h)]
  show Reader.runAt ((Reader.s2 : Decoder Int) >>= fun x => pure (Instr.if_icmp .eq x)) c (p + 1) = _
  rw [zrb _ _ _ _ (zs2 (zsf_t h)), e, zgp f]
  rfl
theorem ze_159n {c : ByteArray} {p : Nat} {a b : UInt8} {l : List UInt8} (h : zsf c p (159 :: a :: b :: l)) {u : Nat} (e : a.toNat * 256 + b.toNat + u = 65536) (f : u ≤ 32768) : decode c p = .ok (.if_icmp .eq (-(u : Int)), 3) := by
  refine zdc ?_
  unfold Decoder.instr
  rw [zrb _ _ _ _ (zu1 h)]
  show Reader.runAt ((Reader.s2 : Decoder Int) >>= fun x => pure (Instr.if_icmp .eq x)) c (p + 1) = _
  rw [zrb _ _ _ _ (zs2 (zsf_t h)), zgn16 e f]
  rfl
theorem ze_163 {c : ByteArray} {p : Nat} {a b : UInt8} {l : List UInt8} (h : zsf c p (163 :: a :: b :: l)) {u : Nat} (e : a.toNat * 256 + b.toNat = u) (f : u + 1 ≤ 32768) : decode c p = .ok (.if_icmp .gt (u : Int), 3) := by
  refine zdc ?_
  unfold Decoder.instr
  rw [zrb _ _ _ _ (zu1 h)]
  show Reader.runAt ((Reader.s2 : Decoder Int) >>= fun x => pure (Instr.if_icmp .gt x)) c (p + 1) = _
  rw [zrb _ _ _ _ (zs2 (zsf_t h)), e, zgp f]
  rfl
theorem ze_163n {c : ByteArray} {p : Nat} {a b : UInt8} {l : List UInt8} (h : zsf c p (163 :: a :: b :: l)) {u : Nat} (e : a.toNat * 256 + b.toNat + u = 65536) (f : u ≤ 32768) : decode c p = .ok (.if_icmp .gt (-(u : Int)), 3) := by
  refine zdc ?_
  unfold Decoder.instr
  rw [zrb _ _ _ _ (zu1 h)]
  show Reader.runAt ((Reader.s2 : Decoder Int) >>= fun x => pure (Instr.if_icmp .gt x)) c (p + 1) = _
  rw [zrb _ _ _ _ (zs2 (zsf_t h)), zgn16 e f]
  rfl
theorem ze_167 {c : ByteArray} {p : Nat} {a b : UInt8} {l : List UInt8} (h : zsf c p (167 :: a :: b :: l)) {u : Nat} (e : a.toNat * 256 + b.toNat = u) (f : u + 1 ≤ 32768) : decode c p = .ok (.goto (u : Int), 3) := by
  refine zdc ?_
  unfold Decoder.instr
  rw [zrb _ _ _ _ (zu1 h)]
  show Reader.runAt ((Reader.s2 : Decoder Int) >>= fun x => pure (Instr.goto x)) c (p + 1) = _
  rw [zrb _ _ _ _ (zs2 (zsf_t h)), e, zgp f]
  rfl
theorem ze_167n {c : ByteArray} {p : Nat} {a b : UInt8} {l : List UInt8} (h : zsf c p (167 :: a :: b :: l)) {u : Nat} (e : a.toNat * 256 + b.toNat + u = 65536) (f : u ≤ 32768) : decode c p = .ok (.goto (-(u : Int)), 3) := by
  refine zdc ?_
  unfold Decoder.instr
  rw [zrb _ _ _ _ (zu1 h)]
  show Reader.runAt ((Reader.s2 : Decoder Int) >>= fun x => pure (Instr.goto x)) c (p + 1) = _
  rw [zrb _ _ _ _ (zs2 (zsf_t h)), zgn16 e f]
  rfl
theorem ze_172 {c : ByteArray} {p : Nat} {l : List UInt8} (h : zsf c p (172 :: l)) : decode c p = .ok (.ireturn, 1) := by
  refine zdc ?_
  unfold Decoder.instr
  rw [zrb _ _ _ _ (zu1 h)]
  rfl
theorem ze_182 {c : ByteArray} {p : Nat} {a b : UInt8} {l : List UInt8} (h : zsf c p (182 :: a :: b :: l)) {u : Nat} (e : a.toNat * 256 + b.toNat = u) : decode c p = .ok (.invokevirtual u, 3) := by
  refine zdc ?_
  unfold Decoder.instr
  rw [zrb _ _ _ _ (zu1 h)]
  show Reader.runAt ((Reader.u2 : Decoder Nat) >>= fun x => pure (Instr.invokevirtual x)) c (p + 1) = _
  rw [zrb _ _ _ _ (zu2 (zsf_t h)), e]
  rfl
theorem ze_183 {c : ByteArray} {p : Nat} {a b : UInt8} {l : List UInt8} (h : zsf c p (183 :: a :: b :: l)) {u : Nat} (e : a.toNat * 256 + b.toNat = u) : decode c p = .ok (.invokespecial u, 3) := by
  refine zdc ?_
  unfold Decoder.instr
  rw [zrb _ _ _ _ (zu1 h)]
  show Reader.runAt ((Reader.u2 : Decoder Nat) >>= fun x => pure (Instr.invokespecial x)) c (p + 1) = _
  rw [zrb _ _ _ _ (zu2 (zsf_t h)), e]
  rfl
theorem ze_187 {c : ByteArray} {p : Nat} {a b : UInt8} {l : List UInt8} (h : zsf c p (187 :: a :: b :: l)) {u : Nat} (e : a.toNat * 256 + b.toNat = u) : decode c p = .ok (.new u, 3) := by
  refine zdc ?_
  unfold Decoder.instr
  rw [zrb _ _ _ _ (zu1 h)]
  show Reader.runAt ((Reader.u2 : Decoder Nat) >>= fun x => pure (Instr.new x)) c (p + 1) = _
  rw [zrb _ _ _ _ (zu2 (zsf_t h)), e]
  rfl
theorem ze_190 {c : ByteArray} {p : Nat} {l : List UInt8} (h : zsf c p (190 :: l)) : decode c p = .ok (.arraylength, 1) := by
  refine zdc ?_
  unfold Decoder.instr
  rw [zrb _ _ _ _ (zu1 h)]
  rfl
noncomputable abbrev zbode_1320 : List UInt8 := []
noncomputable abbrev zbode_1319 : List UInt8 := 172 :: zbode_1320
noncomputable abbrev zbode_1318 : List UInt8 := 4 :: zbode_1319
noncomputable abbrev zbode_1315 : List UInt8 := 167 :: 250 :: 239 :: zbode_1318
noncomputable abbrev zbode_1312 : List UInt8 := 132 :: 3 :: 6 :: zbode_1315
noncomputable abbrev zbode_1309 : List UInt8 := 167 :: 0 :: 3 :: zbode_1312
noncomputable abbrev zbode_1308 : List UInt8 := 87 :: zbode_1309
noncomputable abbrev zbode_1305 : List UInt8 := 182 :: 0 :: 174 :: zbode_1308
noncomputable abbrev zbode_1304 : List UInt8 := 46 :: zbode_1305
noncomputable abbrev zbode_1303 : List UInt8 := 96 :: zbode_1304
noncomputable abbrev zbode_1302 : List UInt8 := 4 :: zbode_1303
noncomputable abbrev zbode_1301 : List UInt8 := 29 :: zbode_1302
noncomputable abbrev zbode_1300 : List UInt8 := 42 :: zbode_1301
noncomputable abbrev zbode_1299 : List UInt8 := 44 :: zbode_1300
noncomputable abbrev zbode_1298 : List UInt8 := 87 :: zbode_1299
noncomputable abbrev zbode_1295 : List UInt8 := 182 :: 0 :: 171 :: zbode_1298
noncomputable abbrev zbode_1294 : List UInt8 := 46 :: zbode_1295
noncomputable abbrev zbode_1293 : List UInt8 := 96 :: zbode_1294
noncomputable abbrev zbode_1292 : List UInt8 := 4 :: zbode_1293
noncomputable abbrev zbode_1291 : List UInt8 := 29 :: zbode_1292
noncomputable abbrev zbode_1290 : List UInt8 := 42 :: zbode_1291
noncomputable abbrev zbode_1289 : List UInt8 := 43 :: zbode_1290
noncomputable abbrev zbode_1286 : List UInt8 := 167 :: 0 :: 26 :: zbode_1289
noncomputable abbrev zbode_1285 : List UInt8 := 87 :: zbode_1286
noncomputable abbrev zbode_1282 : List UInt8 := 182 :: 0 :: 170 :: zbode_1285
noncomputable abbrev zbode_1281 : List UInt8 := 44 :: zbode_1282
noncomputable abbrev zbode_1280 : List UInt8 := 87 :: zbode_1281
noncomputable abbrev zbode_1277 : List UInt8 := 182 :: 0 :: 167 :: zbode_1280
noncomputable abbrev zbode_1276 : List UInt8 := 43 :: zbode_1277
noncomputable abbrev zbode_1273 : List UInt8 := 167 :: 0 :: 39 :: zbode_1276
noncomputable abbrev zbode_1272 : List UInt8 := 87 :: zbode_1273
noncomputable abbrev zbode_1269 : List UInt8 := 182 :: 0 :: 166 :: zbode_1272
noncomputable abbrev zbode_1268 : List UInt8 := 46 :: zbode_1269
noncomputable abbrev zbode_1267 : List UInt8 := 96 :: zbode_1268
noncomputable abbrev zbode_1266 : List UInt8 := 4 :: zbode_1267
noncomputable abbrev zbode_1265 : List UInt8 := 29 :: zbode_1266
noncomputable abbrev zbode_1264 : List UInt8 := 42 :: zbode_1265
noncomputable abbrev zbode_1263 : List UInt8 := 44 :: zbode_1264
noncomputable abbrev zbode_1262 : List UInt8 := 87 :: zbode_1263
noncomputable abbrev zbode_1259 : List UInt8 := 182 :: 0 :: 163 :: zbode_1262
noncomputable abbrev zbode_1258 : List UInt8 := 46 :: zbode_1259
noncomputable abbrev zbode_1257 : List UInt8 := 96 :: zbode_1258
noncomputable abbrev zbode_1256 : List UInt8 := 4 :: zbode_1257
noncomputable abbrev zbode_1255 : List UInt8 := 29 :: zbode_1256
noncomputable abbrev zbode_1254 : List UInt8 := 42 :: zbode_1255
noncomputable abbrev zbode_1253 : List UInt8 := 43 :: zbode_1254
noncomputable abbrev zbode_1250 : List UInt8 := 167 :: 0 :: 62 :: zbode_1253
noncomputable abbrev zbode_1249 : List UInt8 := 87 :: zbode_1250
noncomputable abbrev zbode_1246 : List UInt8 := 182 :: 0 :: 162 :: zbode_1249
noncomputable abbrev zbode_1245 : List UInt8 := 44 :: zbode_1246
noncomputable abbrev zbode_1244 : List UInt8 := 87 :: zbode_1245
noncomputable abbrev zbode_1241 : List UInt8 := 182 :: 0 :: 159 :: zbode_1244
noncomputable abbrev zbode_1240 : List UInt8 := 43 :: zbode_1241
noncomputable abbrev zbode_1237 : List UInt8 := 167 :: 0 :: 75 :: zbode_1240
noncomputable abbrev zbode_1236 : List UInt8 := 87 :: zbode_1237
noncomputable abbrev zbode_1233 : List UInt8 := 182 :: 0 :: 158 :: zbode_1236
noncomputable abbrev zbode_1232 : List UInt8 := 46 :: zbode_1233
noncomputable abbrev zbode_1231 : List UInt8 := 96 :: zbode_1232
noncomputable abbrev zbode_1230 : List UInt8 := 6 :: zbode_1231
noncomputable abbrev zbode_1229 : List UInt8 := 29 :: zbode_1230
noncomputable abbrev zbode_1228 : List UInt8 := 42 :: zbode_1229
noncomputable abbrev zbode_1227 : List UInt8 := 46 :: zbode_1228
noncomputable abbrev zbode_1226 : List UInt8 := 96 :: zbode_1227
noncomputable abbrev zbode_1225 : List UInt8 := 5 :: zbode_1226
noncomputable abbrev zbode_1224 : List UInt8 := 29 :: zbode_1225
noncomputable abbrev zbode_1223 : List UInt8 := 42 :: zbode_1224
noncomputable abbrev zbode_1222 : List UInt8 := 46 :: zbode_1223
noncomputable abbrev zbode_1221 : List UInt8 := 96 :: zbode_1222
noncomputable abbrev zbode_1220 : List UInt8 := 4 :: zbode_1221
noncomputable abbrev zbode_1219 : List UInt8 := 29 :: zbode_1220
noncomputable abbrev zbode_1218 : List UInt8 := 42 :: zbode_1219
noncomputable abbrev zbode_1217 : List UInt8 := 44 :: zbode_1218
noncomputable abbrev zbode_1216 : List UInt8 := 87 :: zbode_1217
noncomputable abbrev zbode_1213 : List UInt8 := 182 :: 0 :: 155 :: zbode_1216
noncomputable abbrev zbode_1212 : List UInt8 := 46 :: zbode_1213
noncomputable abbrev zbode_1211 : List UInt8 := 96 :: zbode_1212
noncomputable abbrev zbode_1210 : List UInt8 := 6 :: zbode_1211
noncomputable abbrev zbode_1209 : List UInt8 := 29 :: zbode_1210
noncomputable abbrev zbode_1208 : List UInt8 := 42 :: zbode_1209
noncomputable abbrev zbode_1207 : List UInt8 := 46 :: zbode_1208
noncomputable abbrev zbode_1206 : List UInt8 := 96 :: zbode_1207
noncomputable abbrev zbode_1205 : List UInt8 := 5 :: zbode_1206
noncomputable abbrev zbode_1204 : List UInt8 := 29 :: zbode_1205
noncomputable abbrev zbode_1203 : List UInt8 := 42 :: zbode_1204
noncomputable abbrev zbode_1202 : List UInt8 := 46 :: zbode_1203
noncomputable abbrev zbode_1201 : List UInt8 := 96 :: zbode_1202
noncomputable abbrev zbode_1200 : List UInt8 := 4 :: zbode_1201
noncomputable abbrev zbode_1199 : List UInt8 := 29 :: zbode_1200
noncomputable abbrev zbode_1198 : List UInt8 := 42 :: zbode_1199
noncomputable abbrev zbode_1197 : List UInt8 := 43 :: zbode_1198
noncomputable abbrev zbode_1194 : List UInt8 := 167 :: 0 :: 118 :: zbode_1197
noncomputable abbrev zbode_1193 : List UInt8 := 87 :: zbode_1194
noncomputable abbrev zbode_1190 : List UInt8 := 182 :: 0 :: 154 :: zbode_1193
noncomputable abbrev zbode_1189 : List UInt8 := 46 :: zbode_1190
noncomputable abbrev zbode_1188 : List UInt8 := 96 :: zbode_1189
noncomputable abbrev zbode_1187 : List UInt8 := 5 :: zbode_1188
noncomputable abbrev zbode_1186 : List UInt8 := 29 :: zbode_1187
noncomputable abbrev zbode_1185 : List UInt8 := 42 :: zbode_1186
noncomputable abbrev zbode_1184 : List UInt8 := 46 :: zbode_1185
noncomputable abbrev zbode_1183 : List UInt8 := 96 :: zbode_1184
noncomputable abbrev zbode_1182 : List UInt8 := 4 :: zbode_1183
noncomputable abbrev zbode_1181 : List UInt8 := 29 :: zbode_1182
noncomputable abbrev zbode_1180 : List UInt8 := 42 :: zbode_1181
noncomputable abbrev zbode_1179 : List UInt8 := 44 :: zbode_1180
noncomputable abbrev zbode_1178 : List UInt8 := 87 :: zbode_1179
noncomputable abbrev zbode_1175 : List UInt8 := 182 :: 0 :: 151 :: zbode_1178
noncomputable abbrev zbode_1174 : List UInt8 := 46 :: zbode_1175
noncomputable abbrev zbode_1173 : List UInt8 := 96 :: zbode_1174
noncomputable abbrev zbode_1172 : List UInt8 := 5 :: zbode_1173
noncomputable abbrev zbode_1171 : List UInt8 := 29 :: zbode_1172
noncomputable abbrev zbode_1170 : List UInt8 := 42 :: zbode_1171
noncomputable abbrev zbode_1169 : List UInt8 := 46 :: zbode_1170
noncomputable abbrev zbode_1168 : List UInt8 := 96 :: zbode_1169
noncomputable abbrev zbode_1167 : List UInt8 := 4 :: zbode_1168
noncomputable abbrev zbode_1166 : List UInt8 := 29 :: zbode_1167
noncomputable abbrev zbode_1165 : List UInt8 := 42 :: zbode_1166
noncomputable abbrev zbode_1164 : List UInt8 := 43 :: zbode_1165
noncomputable abbrev zbode_1161 : List UInt8 := 167 :: 0 :: 151 :: zbode_1164
noncomputable abbrev zbode_1160 : List UInt8 := 87 :: zbode_1161
noncomputable abbrev zbode_1157 : List UInt8 := 182 :: 0 :: 150 :: zbode_1160
noncomputable abbrev zbode_1156 : List UInt8 := 46 :: zbode_1157
noncomputable abbrev zbode_1155 : List UInt8 := 96 :: zbode_1156
noncomputable abbrev zbode_1154 : List UInt8 := 4 :: zbode_1155
noncomputable abbrev zbode_1153 : List UInt8 := 29 :: zbode_1154
noncomputable abbrev zbode_1152 : List UInt8 := 42 :: zbode_1153
noncomputable abbrev zbode_1151 : List UInt8 := 44 :: zbode_1152
noncomputable abbrev zbode_1150 : List UInt8 := 87 :: zbode_1151
noncomputable abbrev zbode_1147 : List UInt8 := 182 :: 0 :: 147 :: zbode_1150
noncomputable abbrev zbode_1146 : List UInt8 := 46 :: zbode_1147
noncomputable abbrev zbode_1145 : List UInt8 := 96 :: zbode_1146
noncomputable abbrev zbode_1144 : List UInt8 := 4 :: zbode_1145
noncomputable abbrev zbode_1143 : List UInt8 := 29 :: zbode_1144
noncomputable abbrev zbode_1142 : List UInt8 := 42 :: zbode_1143
noncomputable abbrev zbode_1141 : List UInt8 := 43 :: zbode_1142
noncomputable abbrev zbode_1138 : List UInt8 := 167 :: 0 :: 174 :: zbode_1141
noncomputable abbrev zbode_1137 : List UInt8 := 87 :: zbode_1138
noncomputable abbrev zbode_1134 : List UInt8 := 182 :: 0 :: 146 :: zbode_1137
noncomputable abbrev zbode_1133 : List UInt8 := 46 :: zbode_1134
noncomputable abbrev zbode_1132 : List UInt8 := 96 :: zbode_1133
noncomputable abbrev zbode_1131 : List UInt8 := 5 :: zbode_1132
noncomputable abbrev zbode_1130 : List UInt8 := 29 :: zbode_1131
noncomputable abbrev zbode_1129 : List UInt8 := 42 :: zbode_1130
noncomputable abbrev zbode_1128 : List UInt8 := 46 :: zbode_1129
noncomputable abbrev zbode_1127 : List UInt8 := 96 :: zbode_1128
noncomputable abbrev zbode_1126 : List UInt8 := 4 :: zbode_1127
noncomputable abbrev zbode_1125 : List UInt8 := 29 :: zbode_1126
noncomputable abbrev zbode_1124 : List UInt8 := 42 :: zbode_1125
noncomputable abbrev zbode_1123 : List UInt8 := 44 :: zbode_1124
noncomputable abbrev zbode_1122 : List UInt8 := 87 :: zbode_1123
noncomputable abbrev zbode_1119 : List UInt8 := 182 :: 0 :: 143 :: zbode_1122
noncomputable abbrev zbode_1118 : List UInt8 := 46 :: zbode_1119
noncomputable abbrev zbode_1117 : List UInt8 := 96 :: zbode_1118
noncomputable abbrev zbode_1116 : List UInt8 := 5 :: zbode_1117
noncomputable abbrev zbode_1115 : List UInt8 := 29 :: zbode_1116
noncomputable abbrev zbode_1114 : List UInt8 := 42 :: zbode_1115
noncomputable abbrev zbode_1113 : List UInt8 := 46 :: zbode_1114
noncomputable abbrev zbode_1112 : List UInt8 := 96 :: zbode_1113
noncomputable abbrev zbode_1111 : List UInt8 := 4 :: zbode_1112
noncomputable abbrev zbode_1110 : List UInt8 := 29 :: zbode_1111
noncomputable abbrev zbode_1109 : List UInt8 := 42 :: zbode_1110
noncomputable abbrev zbode_1108 : List UInt8 := 43 :: zbode_1109
noncomputable abbrev zbode_1105 : List UInt8 := 167 :: 0 :: 207 :: zbode_1108
noncomputable abbrev zbode_1104 : List UInt8 := 87 :: zbode_1105
noncomputable abbrev zbode_1101 : List UInt8 := 182 :: 0 :: 142 :: zbode_1104
noncomputable abbrev zbode_1100 : List UInt8 := 46 :: zbode_1101
noncomputable abbrev zbode_1099 : List UInt8 := 96 :: zbode_1100
noncomputable abbrev zbode_1098 : List UInt8 := 5 :: zbode_1099
noncomputable abbrev zbode_1097 : List UInt8 := 29 :: zbode_1098
noncomputable abbrev zbode_1096 : List UInt8 := 42 :: zbode_1097
noncomputable abbrev zbode_1095 : List UInt8 := 46 :: zbode_1096
noncomputable abbrev zbode_1094 : List UInt8 := 96 :: zbode_1095
noncomputable abbrev zbode_1093 : List UInt8 := 4 :: zbode_1094
noncomputable abbrev zbode_1092 : List UInt8 := 29 :: zbode_1093
noncomputable abbrev zbode_1091 : List UInt8 := 42 :: zbode_1092
noncomputable abbrev zbode_1090 : List UInt8 := 44 :: zbode_1091
noncomputable abbrev zbode_1089 : List UInt8 := 87 :: zbode_1090
noncomputable abbrev zbode_1086 : List UInt8 := 182 :: 0 :: 139 :: zbode_1089
noncomputable abbrev zbode_1085 : List UInt8 := 46 :: zbode_1086
noncomputable abbrev zbode_1084 : List UInt8 := 96 :: zbode_1085
noncomputable abbrev zbode_1083 : List UInt8 := 5 :: zbode_1084
noncomputable abbrev zbode_1082 : List UInt8 := 29 :: zbode_1083
noncomputable abbrev zbode_1081 : List UInt8 := 42 :: zbode_1082
noncomputable abbrev zbode_1080 : List UInt8 := 46 :: zbode_1081
noncomputable abbrev zbode_1079 : List UInt8 := 96 :: zbode_1080
noncomputable abbrev zbode_1078 : List UInt8 := 4 :: zbode_1079
noncomputable abbrev zbode_1077 : List UInt8 := 29 :: zbode_1078
noncomputable abbrev zbode_1076 : List UInt8 := 42 :: zbode_1077
noncomputable abbrev zbode_1075 : List UInt8 := 43 :: zbode_1076
noncomputable abbrev zbode_1072 : List UInt8 := 167 :: 0 :: 240 :: zbode_1075
noncomputable abbrev zbode_1071 : List UInt8 := 87 :: zbode_1072
noncomputable abbrev zbode_1068 : List UInt8 := 182 :: 0 :: 138 :: zbode_1071
noncomputable abbrev zbode_1067 : List UInt8 := 44 :: zbode_1068
noncomputable abbrev zbode_1066 : List UInt8 := 87 :: zbode_1067
noncomputable abbrev zbode_1063 : List UInt8 := 182 :: 0 :: 135 :: zbode_1066
noncomputable abbrev zbode_1062 : List UInt8 := 43 :: zbode_1063
noncomputable abbrev zbode_1059 : List UInt8 := 167 :: 0 :: 253 :: zbode_1062
noncomputable abbrev zbode_1058 : List UInt8 := 87 :: zbode_1059
noncomputable abbrev zbode_1055 : List UInt8 := 182 :: 0 :: 134 :: zbode_1058
noncomputable abbrev zbode_1054 : List UInt8 := 46 :: zbode_1055
noncomputable abbrev zbode_1053 : List UInt8 := 96 :: zbode_1054
noncomputable abbrev zbode_1052 : List UInt8 := 4 :: zbode_1053
noncomputable abbrev zbode_1051 : List UInt8 := 29 :: zbode_1052
noncomputable abbrev zbode_1050 : List UInt8 := 42 :: zbode_1051
noncomputable abbrev zbode_1049 : List UInt8 := 44 :: zbode_1050
noncomputable abbrev zbode_1048 : List UInt8 := 87 :: zbode_1049
noncomputable abbrev zbode_1045 : List UInt8 := 182 :: 0 :: 131 :: zbode_1048
noncomputable abbrev zbode_1044 : List UInt8 := 46 :: zbode_1045
noncomputable abbrev zbode_1043 : List UInt8 := 96 :: zbode_1044
noncomputable abbrev zbode_1042 : List UInt8 := 4 :: zbode_1043
noncomputable abbrev zbode_1041 : List UInt8 := 29 :: zbode_1042
noncomputable abbrev zbode_1040 : List UInt8 := 42 :: zbode_1041
noncomputable abbrev zbode_1039 : List UInt8 := 43 :: zbode_1040
noncomputable abbrev zbode_1036 : List UInt8 := 167 :: 1 :: 20 :: zbode_1039
noncomputable abbrev zbode_1035 : List UInt8 := 87 :: zbode_1036
noncomputable abbrev zbode_1032 : List UInt8 := 182 :: 0 :: 130 :: zbode_1035
noncomputable abbrev zbode_1031 : List UInt8 := 44 :: zbode_1032
noncomputable abbrev zbode_1030 : List UInt8 := 87 :: zbode_1031
noncomputable abbrev zbode_1027 : List UInt8 := 182 :: 0 :: 127 :: zbode_1030
noncomputable abbrev zbode_1026 : List UInt8 := 43 :: zbode_1027
noncomputable abbrev zbode_1023 : List UInt8 := 167 :: 1 :: 33 :: zbode_1026
noncomputable abbrev zbode_1022 : List UInt8 := 87 :: zbode_1023
noncomputable abbrev zbode_1019 : List UInt8 := 182 :: 0 :: 126 :: zbode_1022
noncomputable abbrev zbode_1018 : List UInt8 := 46 :: zbode_1019
noncomputable abbrev zbode_1017 : List UInt8 := 96 :: zbode_1018
noncomputable abbrev zbode_1016 : List UInt8 := 4 :: zbode_1017
noncomputable abbrev zbode_1015 : List UInt8 := 29 :: zbode_1016
noncomputable abbrev zbode_1014 : List UInt8 := 42 :: zbode_1015
noncomputable abbrev zbode_1013 : List UInt8 := 44 :: zbode_1014
noncomputable abbrev zbode_1012 : List UInt8 := 87 :: zbode_1013
noncomputable abbrev zbode_1009 : List UInt8 := 182 :: 0 :: 123 :: zbode_1012
noncomputable abbrev zbode_1008 : List UInt8 := 46 :: zbode_1009
noncomputable abbrev zbode_1007 : List UInt8 := 96 :: zbode_1008
noncomputable abbrev zbode_1006 : List UInt8 := 4 :: zbode_1007
noncomputable abbrev zbode_1005 : List UInt8 := 29 :: zbode_1006
noncomputable abbrev zbode_1004 : List UInt8 := 42 :: zbode_1005
noncomputable abbrev zbode_1003 : List UInt8 := 43 :: zbode_1004
noncomputable abbrev zbode_1000 : List UInt8 := 167 :: 1 :: 56 :: zbode_1003
noncomputable abbrev zbode_999 : List UInt8 := 87 :: zbode_1000
noncomputable abbrev zbode_996 : List UInt8 := 182 :: 0 :: 122 :: zbode_999
noncomputable abbrev zbode_995 : List UInt8 := 46 :: zbode_996
noncomputable abbrev zbode_994 : List UInt8 := 96 :: zbode_995
noncomputable abbrev zbode_993 : List UInt8 := 4 :: zbode_994
noncomputable abbrev zbode_992 : List UInt8 := 29 :: zbode_993
noncomputable abbrev zbode_991 : List UInt8 := 42 :: zbode_992
noncomputable abbrev zbode_990 : List UInt8 := 44 :: zbode_991
noncomputable abbrev zbode_989 : List UInt8 := 87 :: zbode_990
noncomputable abbrev zbode_986 : List UInt8 := 182 :: 0 :: 119 :: zbode_989
noncomputable abbrev zbode_985 : List UInt8 := 46 :: zbode_986
noncomputable abbrev zbode_984 : List UInt8 := 96 :: zbode_985
noncomputable abbrev zbode_983 : List UInt8 := 4 :: zbode_984
noncomputable abbrev zbode_982 : List UInt8 := 29 :: zbode_983
noncomputable abbrev zbode_981 : List UInt8 := 42 :: zbode_982
noncomputable abbrev zbode_980 : List UInt8 := 43 :: zbode_981
noncomputable abbrev zbode_977 : List UInt8 := 167 :: 1 :: 79 :: zbode_980
noncomputable abbrev zbode_976 : List UInt8 := 87 :: zbode_977
noncomputable abbrev zbode_973 : List UInt8 := 182 :: 0 :: 118 :: zbode_976
noncomputable abbrev zbode_972 : List UInt8 := 44 :: zbode_973
noncomputable abbrev zbode_971 : List UInt8 := 87 :: zbode_972
noncomputable abbrev zbode_968 : List UInt8 := 182 :: 0 :: 115 :: zbode_971
noncomputable abbrev zbode_967 : List UInt8 := 43 :: zbode_968
noncomputable abbrev zbode_964 : List UInt8 := 167 :: 1 :: 92 :: zbode_967
noncomputable abbrev zbode_963 : List UInt8 := 87 :: zbode_964
noncomputable abbrev zbode_960 : List UInt8 := 182 :: 0 :: 114 :: zbode_963
noncomputable abbrev zbode_959 : List UInt8 := 46 :: zbode_960
noncomputable abbrev zbode_958 : List UInt8 := 96 :: zbode_959
noncomputable abbrev zbode_957 : List UInt8 := 5 :: zbode_958
noncomputable abbrev zbode_956 : List UInt8 := 29 :: zbode_957
noncomputable abbrev zbode_955 : List UInt8 := 42 :: zbode_956
noncomputable abbrev zbode_954 : List UInt8 := 46 :: zbode_955
noncomputable abbrev zbode_953 : List UInt8 := 96 :: zbode_954
noncomputable abbrev zbode_952 : List UInt8 := 4 :: zbode_953
noncomputable abbrev zbode_951 : List UInt8 := 29 :: zbode_952
noncomputable abbrev zbode_950 : List UInt8 := 42 :: zbode_951
noncomputable abbrev zbode_949 : List UInt8 := 44 :: zbode_950
noncomputable abbrev zbode_948 : List UInt8 := 87 :: zbode_949
noncomputable abbrev zbode_945 : List UInt8 := 182 :: 0 :: 111 :: zbode_948
noncomputable abbrev zbode_944 : List UInt8 := 46 :: zbode_945
noncomputable abbrev zbode_943 : List UInt8 := 96 :: zbode_944
noncomputable abbrev zbode_942 : List UInt8 := 5 :: zbode_943
noncomputable abbrev zbode_941 : List UInt8 := 29 :: zbode_942
noncomputable abbrev zbode_940 : List UInt8 := 42 :: zbode_941
noncomputable abbrev zbode_939 : List UInt8 := 46 :: zbode_940
noncomputable abbrev zbode_938 : List UInt8 := 96 :: zbode_939
noncomputable abbrev zbode_937 : List UInt8 := 4 :: zbode_938
noncomputable abbrev zbode_936 : List UInt8 := 29 :: zbode_937
noncomputable abbrev zbode_935 : List UInt8 := 42 :: zbode_936
noncomputable abbrev zbode_934 : List UInt8 := 43 :: zbode_935
noncomputable abbrev zbode_931 : List UInt8 := 167 :: 1 :: 125 :: zbode_934
noncomputable abbrev zbode_930 : List UInt8 := 87 :: zbode_931
noncomputable abbrev zbode_927 : List UInt8 := 182 :: 0 :: 110 :: zbode_930
noncomputable abbrev zbode_926 : List UInt8 := 46 :: zbode_927
noncomputable abbrev zbode_925 : List UInt8 := 96 :: zbode_926
noncomputable abbrev zbode_924 : List UInt8 := 5 :: zbode_925
noncomputable abbrev zbode_923 : List UInt8 := 29 :: zbode_924
noncomputable abbrev zbode_922 : List UInt8 := 42 :: zbode_923
noncomputable abbrev zbode_921 : List UInt8 := 46 :: zbode_922
noncomputable abbrev zbode_920 : List UInt8 := 96 :: zbode_921
noncomputable abbrev zbode_919 : List UInt8 := 4 :: zbode_920
noncomputable abbrev zbode_918 : List UInt8 := 29 :: zbode_919
noncomputable abbrev zbode_917 : List UInt8 := 42 :: zbode_918
noncomputable abbrev zbode_916 : List UInt8 := 44 :: zbode_917
noncomputable abbrev zbode_915 : List UInt8 := 87 :: zbode_916
noncomputable abbrev zbode_912 : List UInt8 := 182 :: 0 :: 107 :: zbode_915
noncomputable abbrev zbode_911 : List UInt8 := 46 :: zbode_912
noncomputable abbrev zbode_910 : List UInt8 := 96 :: zbode_911
noncomputable abbrev zbode_909 : List UInt8 := 5 :: zbode_910
noncomputable abbrev zbode_908 : List UInt8 := 29 :: zbode_909
noncomputable abbrev zbode_907 : List UInt8 := 42 :: zbode_908
noncomputable abbrev zbode_906 : List UInt8 := 46 :: zbode_907
noncomputable abbrev zbode_905 : List UInt8 := 96 :: zbode_906
noncomputable abbrev zbode_904 : List UInt8 := 4 :: zbode_905
noncomputable abbrev zbode_903 : List UInt8 := 29 :: zbode_904
noncomputable abbrev zbode_902 : List UInt8 := 42 :: zbode_903
noncomputable abbrev zbode_901 : List UInt8 := 43 :: zbode_902
noncomputable abbrev zbode_898 : List UInt8 := 167 :: 1 :: 158 :: zbode_901
noncomputable abbrev zbode_897 : List UInt8 := 87 :: zbode_898
noncomputable abbrev zbode_894 : List UInt8 := 182 :: 0 :: 106 :: zbode_897
noncomputable abbrev zbode_893 : List UInt8 := 46 :: zbode_894
noncomputable abbrev zbode_892 : List UInt8 := 96 :: zbode_893
noncomputable abbrev zbode_891 : List UInt8 := 6 :: zbode_892
noncomputable abbrev zbode_890 : List UInt8 := 29 :: zbode_891
noncomputable abbrev zbode_889 : List UInt8 := 42 :: zbode_890
noncomputable abbrev zbode_888 : List UInt8 := 46 :: zbode_889
noncomputable abbrev zbode_887 : List UInt8 := 96 :: zbode_888
noncomputable abbrev zbode_886 : List UInt8 := 5 :: zbode_887
noncomputable abbrev zbode_885 : List UInt8 := 29 :: zbode_886
noncomputable abbrev zbode_884 : List UInt8 := 42 :: zbode_885
noncomputable abbrev zbode_883 : List UInt8 := 46 :: zbode_884
noncomputable abbrev zbode_882 : List UInt8 := 96 :: zbode_883
noncomputable abbrev zbode_881 : List UInt8 := 4 :: zbode_882
noncomputable abbrev zbode_880 : List UInt8 := 29 :: zbode_881
noncomputable abbrev zbode_879 : List UInt8 := 42 :: zbode_880
noncomputable abbrev zbode_878 : List UInt8 := 44 :: zbode_879
noncomputable abbrev zbode_877 : List UInt8 := 87 :: zbode_878
noncomputable abbrev zbode_874 : List UInt8 := 182 :: 0 :: 103 :: zbode_877
noncomputable abbrev zbode_873 : List UInt8 := 46 :: zbode_874
noncomputable abbrev zbode_872 : List UInt8 := 96 :: zbode_873
noncomputable abbrev zbode_871 : List UInt8 := 6 :: zbode_872
noncomputable abbrev zbode_870 : List UInt8 := 29 :: zbode_871
noncomputable abbrev zbode_869 : List UInt8 := 42 :: zbode_870
noncomputable abbrev zbode_868 : List UInt8 := 46 :: zbode_869
noncomputable abbrev zbode_867 : List UInt8 := 96 :: zbode_868
noncomputable abbrev zbode_866 : List UInt8 := 5 :: zbode_867
noncomputable abbrev zbode_865 : List UInt8 := 29 :: zbode_866
noncomputable abbrev zbode_864 : List UInt8 := 42 :: zbode_865
noncomputable abbrev zbode_863 : List UInt8 := 46 :: zbode_864
noncomputable abbrev zbode_862 : List UInt8 := 96 :: zbode_863
noncomputable abbrev zbode_861 : List UInt8 := 4 :: zbode_862
noncomputable abbrev zbode_860 : List UInt8 := 29 :: zbode_861
noncomputable abbrev zbode_859 : List UInt8 := 42 :: zbode_860
noncomputable abbrev zbode_858 : List UInt8 := 43 :: zbode_859
noncomputable abbrev zbode_855 : List UInt8 := 167 :: 1 :: 201 :: zbode_858
noncomputable abbrev zbode_854 : List UInt8 := 87 :: zbode_855
noncomputable abbrev zbode_851 : List UInt8 := 182 :: 0 :: 102 :: zbode_854
noncomputable abbrev zbode_850 : List UInt8 := 46 :: zbode_851
noncomputable abbrev zbode_849 : List UInt8 := 96 :: zbode_850
noncomputable abbrev zbode_848 : List UInt8 := 4 :: zbode_849
noncomputable abbrev zbode_847 : List UInt8 := 29 :: zbode_848
noncomputable abbrev zbode_846 : List UInt8 := 42 :: zbode_847
noncomputable abbrev zbode_845 : List UInt8 := 44 :: zbode_846
noncomputable abbrev zbode_844 : List UInt8 := 87 :: zbode_845
noncomputable abbrev zbode_841 : List UInt8 := 182 :: 0 :: 99 :: zbode_844
noncomputable abbrev zbode_840 : List UInt8 := 46 :: zbode_841
noncomputable abbrev zbode_839 : List UInt8 := 96 :: zbode_840
noncomputable abbrev zbode_838 : List UInt8 := 4 :: zbode_839
noncomputable abbrev zbode_837 : List UInt8 := 29 :: zbode_838
noncomputable abbrev zbode_836 : List UInt8 := 42 :: zbode_837
noncomputable abbrev zbode_835 : List UInt8 := 43 :: zbode_836
noncomputable abbrev zbode_832 : List UInt8 := 167 :: 1 :: 224 :: zbode_835
noncomputable abbrev zbode_831 : List UInt8 := 87 :: zbode_832
noncomputable abbrev zbode_828 : List UInt8 := 182 :: 0 :: 98 :: zbode_831
noncomputable abbrev zbode_827 : List UInt8 := 44 :: zbode_828
noncomputable abbrev zbode_826 : List UInt8 := 87 :: zbode_827
noncomputable abbrev zbode_823 : List UInt8 := 182 :: 0 :: 94 :: zbode_826
noncomputable abbrev zbode_822 : List UInt8 := 43 :: zbode_823
noncomputable abbrev zbode_819 : List UInt8 := 167 :: 1 :: 237 :: zbode_822
noncomputable abbrev zbode_818 : List UInt8 := 87 :: zbode_819
noncomputable abbrev zbode_815 : List UInt8 := 182 :: 0 :: 93 :: zbode_818
noncomputable abbrev zbode_814 : List UInt8 := 46 :: zbode_815
noncomputable abbrev zbode_813 : List UInt8 := 96 :: zbode_814
noncomputable abbrev zbode_812 : List UInt8 := 5 :: zbode_813
noncomputable abbrev zbode_811 : List UInt8 := 29 :: zbode_812
noncomputable abbrev zbode_810 : List UInt8 := 42 :: zbode_811
noncomputable abbrev zbode_809 : List UInt8 := 46 :: zbode_810
noncomputable abbrev zbode_808 : List UInt8 := 96 :: zbode_809
noncomputable abbrev zbode_807 : List UInt8 := 4 :: zbode_808
noncomputable abbrev zbode_806 : List UInt8 := 29 :: zbode_807
noncomputable abbrev zbode_805 : List UInt8 := 42 :: zbode_806
noncomputable abbrev zbode_804 : List UInt8 := 44 :: zbode_805
noncomputable abbrev zbode_803 : List UInt8 := 87 :: zbode_804
noncomputable abbrev zbode_800 : List UInt8 := 182 :: 0 :: 89 :: zbode_803
noncomputable abbrev zbode_799 : List UInt8 := 46 :: zbode_800
noncomputable abbrev zbode_798 : List UInt8 := 96 :: zbode_799
noncomputable abbrev zbode_797 : List UInt8 := 5 :: zbode_798
noncomputable abbrev zbode_796 : List UInt8 := 29 :: zbode_797
noncomputable abbrev zbode_795 : List UInt8 := 42 :: zbode_796
noncomputable abbrev zbode_794 : List UInt8 := 46 :: zbode_795
noncomputable abbrev zbode_793 : List UInt8 := 96 :: zbode_794
noncomputable abbrev zbode_792 : List UInt8 := 4 :: zbode_793
noncomputable abbrev zbode_791 : List UInt8 := 29 :: zbode_792
noncomputable abbrev zbode_790 : List UInt8 := 42 :: zbode_791
noncomputable abbrev zbode_789 : List UInt8 := 43 :: zbode_790
noncomputable abbrev zbode_786 : List UInt8 := 167 :: 2 :: 14 :: zbode_789
noncomputable abbrev zbode_785 : List UInt8 := 87 :: zbode_786
noncomputable abbrev zbode_782 : List UInt8 := 182 :: 0 :: 88 :: zbode_785
noncomputable abbrev zbode_781 : List UInt8 := 46 :: zbode_782
noncomputable abbrev zbode_780 : List UInt8 := 96 :: zbode_781
noncomputable abbrev zbode_779 : List UInt8 := 5 :: zbode_780
noncomputable abbrev zbode_778 : List UInt8 := 29 :: zbode_779
noncomputable abbrev zbode_777 : List UInt8 := 42 :: zbode_778
noncomputable abbrev zbode_776 : List UInt8 := 46 :: zbode_777
noncomputable abbrev zbode_775 : List UInt8 := 96 :: zbode_776
noncomputable abbrev zbode_774 : List UInt8 := 4 :: zbode_775
noncomputable abbrev zbode_773 : List UInt8 := 29 :: zbode_774
noncomputable abbrev zbode_772 : List UInt8 := 42 :: zbode_773
noncomputable abbrev zbode_771 : List UInt8 := 44 :: zbode_772
noncomputable abbrev zbode_770 : List UInt8 := 87 :: zbode_771
noncomputable abbrev zbode_767 : List UInt8 := 182 :: 0 :: 85 :: zbode_770
noncomputable abbrev zbode_766 : List UInt8 := 46 :: zbode_767
noncomputable abbrev zbode_765 : List UInt8 := 96 :: zbode_766
noncomputable abbrev zbode_764 : List UInt8 := 5 :: zbode_765
noncomputable abbrev zbode_763 : List UInt8 := 29 :: zbode_764
noncomputable abbrev zbode_762 : List UInt8 := 42 :: zbode_763
noncomputable abbrev zbode_761 : List UInt8 := 46 :: zbode_762
noncomputable abbrev zbode_760 : List UInt8 := 96 :: zbode_761
noncomputable abbrev zbode_759 : List UInt8 := 4 :: zbode_760
noncomputable abbrev zbode_758 : List UInt8 := 29 :: zbode_759
noncomputable abbrev zbode_757 : List UInt8 := 42 :: zbode_758
noncomputable abbrev zbode_756 : List UInt8 := 43 :: zbode_757
noncomputable abbrev zbode_753 : List UInt8 := 167 :: 2 :: 47 :: zbode_756
noncomputable abbrev zbode_752 : List UInt8 := 87 :: zbode_753
noncomputable abbrev zbode_749 : List UInt8 := 182 :: 0 :: 84 :: zbode_752
noncomputable abbrev zbode_748 : List UInt8 := 3 :: zbode_749
noncomputable abbrev zbode_745 : List UInt8 := 167 :: 0 :: 4 :: zbode_748
noncomputable abbrev zbode_744 : List UInt8 := 4 :: zbode_745
noncomputable abbrev zbode_741 : List UInt8 := 153 :: 0 :: 7 :: zbode_744
noncomputable abbrev zbode_740 : List UInt8 := 46 :: zbode_741
noncomputable abbrev zbode_739 : List UInt8 := 96 :: zbode_740
noncomputable abbrev zbode_738 : List UInt8 := 5 :: zbode_739
noncomputable abbrev zbode_737 : List UInt8 := 29 :: zbode_738
noncomputable abbrev zbode_736 : List UInt8 := 42 :: zbode_737
noncomputable abbrev zbode_735 : List UInt8 := 46 :: zbode_736
noncomputable abbrev zbode_734 : List UInt8 := 96 :: zbode_735
noncomputable abbrev zbode_733 : List UInt8 := 4 :: zbode_734
noncomputable abbrev zbode_732 : List UInt8 := 29 :: zbode_733
noncomputable abbrev zbode_731 : List UInt8 := 42 :: zbode_732
noncomputable abbrev zbode_730 : List UInt8 := 44 :: zbode_731
noncomputable abbrev zbode_729 : List UInt8 := 87 :: zbode_730
noncomputable abbrev zbode_726 : List UInt8 := 182 :: 0 :: 81 :: zbode_729
noncomputable abbrev zbode_725 : List UInt8 := 3 :: zbode_726
noncomputable abbrev zbode_722 : List UInt8 := 167 :: 0 :: 4 :: zbode_725
noncomputable abbrev zbode_721 : List UInt8 := 4 :: zbode_722
noncomputable abbrev zbode_718 : List UInt8 := 153 :: 0 :: 7 :: zbode_721
noncomputable abbrev zbode_717 : List UInt8 := 46 :: zbode_718
noncomputable abbrev zbode_716 : List UInt8 := 96 :: zbode_717
noncomputable abbrev zbode_715 : List UInt8 := 5 :: zbode_716
noncomputable abbrev zbode_714 : List UInt8 := 29 :: zbode_715
noncomputable abbrev zbode_713 : List UInt8 := 42 :: zbode_714
noncomputable abbrev zbode_712 : List UInt8 := 46 :: zbode_713
noncomputable abbrev zbode_711 : List UInt8 := 96 :: zbode_712
noncomputable abbrev zbode_710 : List UInt8 := 4 :: zbode_711
noncomputable abbrev zbode_709 : List UInt8 := 29 :: zbode_710
noncomputable abbrev zbode_708 : List UInt8 := 42 :: zbode_709
noncomputable abbrev zbode_707 : List UInt8 := 43 :: zbode_708
noncomputable abbrev zbode_704 : List UInt8 := 167 :: 2 :: 96 :: zbode_707
noncomputable abbrev zbode_703 : List UInt8 := 87 :: zbode_704
noncomputable abbrev zbode_700 : List UInt8 := 182 :: 0 :: 80 :: zbode_703
noncomputable abbrev zbode_699 : List UInt8 := 3 :: zbode_700
noncomputable abbrev zbode_696 : List UInt8 := 167 :: 0 :: 4 :: zbode_699
noncomputable abbrev zbode_695 : List UInt8 := 4 :: zbode_696
noncomputable abbrev zbode_692 : List UInt8 := 153 :: 0 :: 7 :: zbode_695
noncomputable abbrev zbode_691 : List UInt8 := 46 :: zbode_692
noncomputable abbrev zbode_690 : List UInt8 := 96 :: zbode_691
noncomputable abbrev zbode_689 : List UInt8 := 5 :: zbode_690
noncomputable abbrev zbode_688 : List UInt8 := 29 :: zbode_689
noncomputable abbrev zbode_687 : List UInt8 := 42 :: zbode_688
noncomputable abbrev zbode_686 : List UInt8 := 46 :: zbode_687
noncomputable abbrev zbode_685 : List UInt8 := 96 :: zbode_686
noncomputable abbrev zbode_684 : List UInt8 := 4 :: zbode_685
noncomputable abbrev zbode_683 : List UInt8 := 29 :: zbode_684
noncomputable abbrev zbode_682 : List UInt8 := 42 :: zbode_683
noncomputable abbrev zbode_681 : List UInt8 := 44 :: zbode_682
noncomputable abbrev zbode_680 : List UInt8 := 87 :: zbode_681
noncomputable abbrev zbode_677 : List UInt8 := 182 :: 0 :: 76 :: zbode_680
noncomputable abbrev zbode_676 : List UInt8 := 3 :: zbode_677
noncomputable abbrev zbode_673 : List UInt8 := 167 :: 0 :: 4 :: zbode_676
noncomputable abbrev zbode_672 : List UInt8 := 4 :: zbode_673
noncomputable abbrev zbode_669 : List UInt8 := 153 :: 0 :: 7 :: zbode_672
noncomputable abbrev zbode_668 : List UInt8 := 46 :: zbode_669
noncomputable abbrev zbode_667 : List UInt8 := 96 :: zbode_668
noncomputable abbrev zbode_666 : List UInt8 := 5 :: zbode_667
noncomputable abbrev zbode_665 : List UInt8 := 29 :: zbode_666
noncomputable abbrev zbode_664 : List UInt8 := 42 :: zbode_665
noncomputable abbrev zbode_663 : List UInt8 := 46 :: zbode_664
noncomputable abbrev zbode_662 : List UInt8 := 96 :: zbode_663
noncomputable abbrev zbode_661 : List UInt8 := 4 :: zbode_662
noncomputable abbrev zbode_660 : List UInt8 := 29 :: zbode_661
noncomputable abbrev zbode_659 : List UInt8 := 42 :: zbode_660
noncomputable abbrev zbode_658 : List UInt8 := 43 :: zbode_659
noncomputable abbrev zbode_655 : List UInt8 := 167 :: 2 :: 145 :: zbode_658
noncomputable abbrev zbode_654 : List UInt8 := 87 :: zbode_655
noncomputable abbrev zbode_651 : List UInt8 := 182 :: 0 :: 75 :: zbode_654
noncomputable abbrev zbode_650 : List UInt8 := 46 :: zbode_651
noncomputable abbrev zbode_649 : List UInt8 := 96 :: zbode_650
noncomputable abbrev zbode_648 : List UInt8 := 5 :: zbode_649
noncomputable abbrev zbode_647 : List UInt8 := 29 :: zbode_648
noncomputable abbrev zbode_646 : List UInt8 := 42 :: zbode_647
noncomputable abbrev zbode_645 : List UInt8 := 46 :: zbode_646
noncomputable abbrev zbode_644 : List UInt8 := 96 :: zbode_645
noncomputable abbrev zbode_643 : List UInt8 := 4 :: zbode_644
noncomputable abbrev zbode_642 : List UInt8 := 29 :: zbode_643
noncomputable abbrev zbode_641 : List UInt8 := 42 :: zbode_642
noncomputable abbrev zbode_640 : List UInt8 := 44 :: zbode_641
noncomputable abbrev zbode_639 : List UInt8 := 87 :: zbode_640
noncomputable abbrev zbode_636 : List UInt8 := 182 :: 0 :: 72 :: zbode_639
noncomputable abbrev zbode_635 : List UInt8 := 46 :: zbode_636
noncomputable abbrev zbode_634 : List UInt8 := 96 :: zbode_635
noncomputable abbrev zbode_633 : List UInt8 := 5 :: zbode_634
noncomputable abbrev zbode_632 : List UInt8 := 29 :: zbode_633
noncomputable abbrev zbode_631 : List UInt8 := 42 :: zbode_632
noncomputable abbrev zbode_630 : List UInt8 := 46 :: zbode_631
noncomputable abbrev zbode_629 : List UInt8 := 96 :: zbode_630
noncomputable abbrev zbode_628 : List UInt8 := 4 :: zbode_629
noncomputable abbrev zbode_627 : List UInt8 := 29 :: zbode_628
noncomputable abbrev zbode_626 : List UInt8 := 42 :: zbode_627
noncomputable abbrev zbode_625 : List UInt8 := 43 :: zbode_626
noncomputable abbrev zbode_622 : List UInt8 := 167 :: 2 :: 178 :: zbode_625
noncomputable abbrev zbode_621 : List UInt8 := 87 :: zbode_622
noncomputable abbrev zbode_618 : List UInt8 := 182 :: 0 :: 71 :: zbode_621
noncomputable abbrev zbode_617 : List UInt8 := 46 :: zbode_618
noncomputable abbrev zbode_616 : List UInt8 := 96 :: zbode_617
noncomputable abbrev zbode_615 : List UInt8 := 4 :: zbode_616
noncomputable abbrev zbode_614 : List UInt8 := 29 :: zbode_615
noncomputable abbrev zbode_613 : List UInt8 := 42 :: zbode_614
noncomputable abbrev zbode_612 : List UInt8 := 44 :: zbode_613
noncomputable abbrev zbode_611 : List UInt8 := 87 :: zbode_612
noncomputable abbrev zbode_608 : List UInt8 := 182 :: 0 :: 68 :: zbode_611
noncomputable abbrev zbode_607 : List UInt8 := 46 :: zbode_608
noncomputable abbrev zbode_606 : List UInt8 := 96 :: zbode_607
noncomputable abbrev zbode_605 : List UInt8 := 4 :: zbode_606
noncomputable abbrev zbode_604 : List UInt8 := 29 :: zbode_605
noncomputable abbrev zbode_603 : List UInt8 := 42 :: zbode_604
noncomputable abbrev zbode_602 : List UInt8 := 43 :: zbode_603
noncomputable abbrev zbode_599 : List UInt8 := 167 :: 2 :: 201 :: zbode_602
noncomputable abbrev zbode_598 : List UInt8 := 87 :: zbode_599
noncomputable abbrev zbode_595 : List UInt8 := 182 :: 0 :: 67 :: zbode_598
noncomputable abbrev zbode_594 : List UInt8 := 3 :: zbode_595
noncomputable abbrev zbode_591 : List UInt8 := 167 :: 0 :: 4 :: zbode_594
noncomputable abbrev zbode_590 : List UInt8 := 4 :: zbode_591
noncomputable abbrev zbode_587 : List UInt8 := 153 :: 0 :: 7 :: zbode_590
noncomputable abbrev zbode_586 : List UInt8 := 46 :: zbode_587
noncomputable abbrev zbode_585 : List UInt8 := 96 :: zbode_586
noncomputable abbrev zbode_584 : List UInt8 := 6 :: zbode_585
noncomputable abbrev zbode_583 : List UInt8 := 29 :: zbode_584
noncomputable abbrev zbode_582 : List UInt8 := 42 :: zbode_583
noncomputable abbrev zbode_581 : List UInt8 := 46 :: zbode_582
noncomputable abbrev zbode_580 : List UInt8 := 96 :: zbode_581
noncomputable abbrev zbode_579 : List UInt8 := 5 :: zbode_580
noncomputable abbrev zbode_578 : List UInt8 := 29 :: zbode_579
noncomputable abbrev zbode_577 : List UInt8 := 42 :: zbode_578
noncomputable abbrev zbode_576 : List UInt8 := 46 :: zbode_577
noncomputable abbrev zbode_575 : List UInt8 := 96 :: zbode_576
noncomputable abbrev zbode_574 : List UInt8 := 4 :: zbode_575
noncomputable abbrev zbode_573 : List UInt8 := 29 :: zbode_574
noncomputable abbrev zbode_572 : List UInt8 := 42 :: zbode_573
noncomputable abbrev zbode_571 : List UInt8 := 44 :: zbode_572
noncomputable abbrev zbode_570 : List UInt8 := 87 :: zbode_571
noncomputable abbrev zbode_567 : List UInt8 := 182 :: 0 :: 63 :: zbode_570
noncomputable abbrev zbode_566 : List UInt8 := 3 :: zbode_567
noncomputable abbrev zbode_563 : List UInt8 := 167 :: 0 :: 4 :: zbode_566
noncomputable abbrev zbode_562 : List UInt8 := 4 :: zbode_563
noncomputable abbrev zbode_559 : List UInt8 := 153 :: 0 :: 7 :: zbode_562
noncomputable abbrev zbode_558 : List UInt8 := 46 :: zbode_559
noncomputable abbrev zbode_557 : List UInt8 := 96 :: zbode_558
noncomputable abbrev zbode_556 : List UInt8 := 6 :: zbode_557
noncomputable abbrev zbode_555 : List UInt8 := 29 :: zbode_556
noncomputable abbrev zbode_554 : List UInt8 := 42 :: zbode_555
noncomputable abbrev zbode_553 : List UInt8 := 46 :: zbode_554
noncomputable abbrev zbode_552 : List UInt8 := 96 :: zbode_553
noncomputable abbrev zbode_551 : List UInt8 := 5 :: zbode_552
noncomputable abbrev zbode_550 : List UInt8 := 29 :: zbode_551
noncomputable abbrev zbode_549 : List UInt8 := 42 :: zbode_550
noncomputable abbrev zbode_548 : List UInt8 := 46 :: zbode_549
noncomputable abbrev zbode_547 : List UInt8 := 96 :: zbode_548
noncomputable abbrev zbode_546 : List UInt8 := 4 :: zbode_547
noncomputable abbrev zbode_545 : List UInt8 := 29 :: zbode_546
noncomputable abbrev zbode_544 : List UInt8 := 42 :: zbode_545
noncomputable abbrev zbode_543 : List UInt8 := 43 :: zbode_544
noncomputable abbrev zbode_540 : List UInt8 := 167 :: 3 :: 4 :: zbode_543
noncomputable abbrev zbode_539 : List UInt8 := 87 :: zbode_540
noncomputable abbrev zbode_536 : List UInt8 := 182 :: 0 :: 62 :: zbode_539
noncomputable abbrev zbode_535 : List UInt8 := 46 :: zbode_536
noncomputable abbrev zbode_534 : List UInt8 := 96 :: zbode_535
noncomputable abbrev zbode_533 : List UInt8 := 5 :: zbode_534
noncomputable abbrev zbode_532 : List UInt8 := 29 :: zbode_533
noncomputable abbrev zbode_531 : List UInt8 := 42 :: zbode_532
noncomputable abbrev zbode_530 : List UInt8 := 46 :: zbode_531
noncomputable abbrev zbode_529 : List UInt8 := 96 :: zbode_530
noncomputable abbrev zbode_528 : List UInt8 := 4 :: zbode_529
noncomputable abbrev zbode_527 : List UInt8 := 29 :: zbode_528
noncomputable abbrev zbode_526 : List UInt8 := 42 :: zbode_527
noncomputable abbrev zbode_525 : List UInt8 := 44 :: zbode_526
noncomputable abbrev zbode_524 : List UInt8 := 87 :: zbode_525
noncomputable abbrev zbode_521 : List UInt8 := 182 :: 0 :: 59 :: zbode_524
noncomputable abbrev zbode_520 : List UInt8 := 46 :: zbode_521
noncomputable abbrev zbode_519 : List UInt8 := 96 :: zbode_520
noncomputable abbrev zbode_518 : List UInt8 := 5 :: zbode_519
noncomputable abbrev zbode_517 : List UInt8 := 29 :: zbode_518
noncomputable abbrev zbode_516 : List UInt8 := 42 :: zbode_517
noncomputable abbrev zbode_515 : List UInt8 := 46 :: zbode_516
noncomputable abbrev zbode_514 : List UInt8 := 96 :: zbode_515
noncomputable abbrev zbode_513 : List UInt8 := 4 :: zbode_514
noncomputable abbrev zbode_512 : List UInt8 := 29 :: zbode_513
noncomputable abbrev zbode_511 : List UInt8 := 42 :: zbode_512
noncomputable abbrev zbode_510 : List UInt8 := 43 :: zbode_511
noncomputable abbrev zbode_507 : List UInt8 := 167 :: 3 :: 37 :: zbode_510
noncomputable abbrev zbode_506 : List UInt8 := 87 :: zbode_507
noncomputable abbrev zbode_503 : List UInt8 := 182 :: 0 :: 58 :: zbode_506
noncomputable abbrev zbode_502 : List UInt8 := 46 :: zbode_503
noncomputable abbrev zbode_501 : List UInt8 := 96 :: zbode_502
noncomputable abbrev zbode_500 : List UInt8 := 5 :: zbode_501
noncomputable abbrev zbode_499 : List UInt8 := 29 :: zbode_500
noncomputable abbrev zbode_498 : List UInt8 := 42 :: zbode_499
noncomputable abbrev zbode_497 : List UInt8 := 46 :: zbode_498
noncomputable abbrev zbode_496 : List UInt8 := 96 :: zbode_497
noncomputable abbrev zbode_495 : List UInt8 := 4 :: zbode_496
noncomputable abbrev zbode_494 : List UInt8 := 29 :: zbode_495
noncomputable abbrev zbode_493 : List UInt8 := 42 :: zbode_494
noncomputable abbrev zbode_492 : List UInt8 := 44 :: zbode_493
noncomputable abbrev zbode_491 : List UInt8 := 87 :: zbode_492
noncomputable abbrev zbode_488 : List UInt8 := 182 :: 0 :: 55 :: zbode_491
noncomputable abbrev zbode_487 : List UInt8 := 46 :: zbode_488
noncomputable abbrev zbode_486 : List UInt8 := 96 :: zbode_487
noncomputable abbrev zbode_485 : List UInt8 := 5 :: zbode_486
noncomputable abbrev zbode_484 : List UInt8 := 29 :: zbode_485
noncomputable abbrev zbode_483 : List UInt8 := 42 :: zbode_484
noncomputable abbrev zbode_482 : List UInt8 := 46 :: zbode_483
noncomputable abbrev zbode_481 : List UInt8 := 96 :: zbode_482
noncomputable abbrev zbode_480 : List UInt8 := 4 :: zbode_481
noncomputable abbrev zbode_479 : List UInt8 := 29 :: zbode_480
noncomputable abbrev zbode_478 : List UInt8 := 42 :: zbode_479
noncomputable abbrev zbode_477 : List UInt8 := 43 :: zbode_478
noncomputable abbrev zbode_474 : List UInt8 := 167 :: 3 :: 70 :: zbode_477
noncomputable abbrev zbode_473 : List UInt8 := 87 :: zbode_474
noncomputable abbrev zbode_470 : List UInt8 := 182 :: 0 :: 54 :: zbode_473
noncomputable abbrev zbode_469 : List UInt8 := 46 :: zbode_470
noncomputable abbrev zbode_468 : List UInt8 := 96 :: zbode_469
noncomputable abbrev zbode_467 : List UInt8 := 5 :: zbode_468
noncomputable abbrev zbode_466 : List UInt8 := 29 :: zbode_467
noncomputable abbrev zbode_465 : List UInt8 := 42 :: zbode_466
noncomputable abbrev zbode_464 : List UInt8 := 46 :: zbode_465
noncomputable abbrev zbode_463 : List UInt8 := 96 :: zbode_464
noncomputable abbrev zbode_462 : List UInt8 := 4 :: zbode_463
noncomputable abbrev zbode_461 : List UInt8 := 29 :: zbode_462
noncomputable abbrev zbode_460 : List UInt8 := 42 :: zbode_461
noncomputable abbrev zbode_459 : List UInt8 := 44 :: zbode_460
noncomputable abbrev zbode_458 : List UInt8 := 87 :: zbode_459
noncomputable abbrev zbode_455 : List UInt8 := 182 :: 0 :: 51 :: zbode_458
noncomputable abbrev zbode_454 : List UInt8 := 46 :: zbode_455
noncomputable abbrev zbode_453 : List UInt8 := 96 :: zbode_454
noncomputable abbrev zbode_452 : List UInt8 := 5 :: zbode_453
noncomputable abbrev zbode_451 : List UInt8 := 29 :: zbode_452
noncomputable abbrev zbode_450 : List UInt8 := 42 :: zbode_451
noncomputable abbrev zbode_449 : List UInt8 := 46 :: zbode_450
noncomputable abbrev zbode_448 : List UInt8 := 96 :: zbode_449
noncomputable abbrev zbode_447 : List UInt8 := 4 :: zbode_448
noncomputable abbrev zbode_446 : List UInt8 := 29 :: zbode_447
noncomputable abbrev zbode_445 : List UInt8 := 42 :: zbode_446
noncomputable abbrev zbode_444 : List UInt8 := 43 :: zbode_445
noncomputable abbrev zbode_441 : List UInt8 := 167 :: 3 :: 103 :: zbode_444
noncomputable abbrev zbode_440 : List UInt8 := 87 :: zbode_441
noncomputable abbrev zbode_437 : List UInt8 := 182 :: 0 :: 50 :: zbode_440
noncomputable abbrev zbode_436 : List UInt8 := 46 :: zbode_437
noncomputable abbrev zbode_435 : List UInt8 := 96 :: zbode_436
noncomputable abbrev zbode_434 : List UInt8 := 4 :: zbode_435
noncomputable abbrev zbode_433 : List UInt8 := 29 :: zbode_434
noncomputable abbrev zbode_432 : List UInt8 := 42 :: zbode_433
noncomputable abbrev zbode_431 : List UInt8 := 44 :: zbode_432
noncomputable abbrev zbode_430 : List UInt8 := 87 :: zbode_431
noncomputable abbrev zbode_427 : List UInt8 := 182 :: 0 :: 47 :: zbode_430
noncomputable abbrev zbode_426 : List UInt8 := 46 :: zbode_427
noncomputable abbrev zbode_425 : List UInt8 := 96 :: zbode_426
noncomputable abbrev zbode_424 : List UInt8 := 4 :: zbode_425
noncomputable abbrev zbode_423 : List UInt8 := 29 :: zbode_424
noncomputable abbrev zbode_422 : List UInt8 := 42 :: zbode_423
noncomputable abbrev zbode_421 : List UInt8 := 43 :: zbode_422
noncomputable abbrev zbode_418 : List UInt8 := 167 :: 3 :: 126 :: zbode_421
noncomputable abbrev zbode_417 : List UInt8 := 87 :: zbode_418
noncomputable abbrev zbode_414 : List UInt8 := 182 :: 0 :: 46 :: zbode_417
noncomputable abbrev zbode_413 : List UInt8 := 46 :: zbode_414
noncomputable abbrev zbode_412 : List UInt8 := 96 :: zbode_413
noncomputable abbrev zbode_411 : List UInt8 := 5 :: zbode_412
noncomputable abbrev zbode_410 : List UInt8 := 29 :: zbode_411
noncomputable abbrev zbode_409 : List UInt8 := 42 :: zbode_410
noncomputable abbrev zbode_408 : List UInt8 := 46 :: zbode_409
noncomputable abbrev zbode_407 : List UInt8 := 96 :: zbode_408
noncomputable abbrev zbode_406 : List UInt8 := 4 :: zbode_407
noncomputable abbrev zbode_405 : List UInt8 := 29 :: zbode_406
noncomputable abbrev zbode_404 : List UInt8 := 42 :: zbode_405
noncomputable abbrev zbode_403 : List UInt8 := 44 :: zbode_404
noncomputable abbrev zbode_402 : List UInt8 := 87 :: zbode_403
noncomputable abbrev zbode_399 : List UInt8 := 182 :: 0 :: 42 :: zbode_402
noncomputable abbrev zbode_398 : List UInt8 := 46 :: zbode_399
noncomputable abbrev zbode_397 : List UInt8 := 96 :: zbode_398
noncomputable abbrev zbode_396 : List UInt8 := 5 :: zbode_397
noncomputable abbrev zbode_395 : List UInt8 := 29 :: zbode_396
noncomputable abbrev zbode_394 : List UInt8 := 42 :: zbode_395
noncomputable abbrev zbode_393 : List UInt8 := 46 :: zbode_394
noncomputable abbrev zbode_392 : List UInt8 := 96 :: zbode_393
noncomputable abbrev zbode_391 : List UInt8 := 4 :: zbode_392
noncomputable abbrev zbode_390 : List UInt8 := 29 :: zbode_391
noncomputable abbrev zbode_389 : List UInt8 := 42 :: zbode_390
noncomputable abbrev zbode_388 : List UInt8 := 43 :: zbode_389
noncomputable abbrev zbode_387 : List UInt8 := 172 :: zbode_388
noncomputable abbrev zbode_386 : List UInt8 := 3 :: zbode_387
noncomputable abbrev zbode_383 : List UInt8 := 159 :: 3 :: 161 :: zbode_386
noncomputable abbrev zbode_380 : List UInt8 := 182 :: 0 :: 41 :: zbode_383
noncomputable abbrev zbode_379 : List UInt8 := 46 :: zbode_380
noncomputable abbrev zbode_378 : List UInt8 := 96 :: zbode_379
noncomputable abbrev zbode_377 : List UInt8 := 6 :: zbode_378
noncomputable abbrev zbode_376 : List UInt8 := 29 :: zbode_377
noncomputable abbrev zbode_375 : List UInt8 := 42 :: zbode_376
noncomputable abbrev zbode_374 : List UInt8 := 46 :: zbode_375
noncomputable abbrev zbode_373 : List UInt8 := 96 :: zbode_374
noncomputable abbrev zbode_372 : List UInt8 := 5 :: zbode_373
noncomputable abbrev zbode_371 : List UInt8 := 29 :: zbode_372
noncomputable abbrev zbode_370 : List UInt8 := 42 :: zbode_371
noncomputable abbrev zbode_369 : List UInt8 := 46 :: zbode_370
noncomputable abbrev zbode_368 : List UInt8 := 96 :: zbode_369
noncomputable abbrev zbode_367 : List UInt8 := 4 :: zbode_368
noncomputable abbrev zbode_366 : List UInt8 := 29 :: zbode_367
noncomputable abbrev zbode_365 : List UInt8 := 42 :: zbode_366
noncomputable abbrev zbode_364 : List UInt8 := 44 :: zbode_365
noncomputable abbrev zbode_361 : List UInt8 := 182 :: 0 :: 37 :: zbode_364
noncomputable abbrev zbode_360 : List UInt8 := 46 :: zbode_361
noncomputable abbrev zbode_359 : List UInt8 := 96 :: zbode_360
noncomputable abbrev zbode_358 : List UInt8 := 6 :: zbode_359
noncomputable abbrev zbode_357 : List UInt8 := 29 :: zbode_358
noncomputable abbrev zbode_356 : List UInt8 := 42 :: zbode_357
noncomputable abbrev zbode_355 : List UInt8 := 46 :: zbode_356
noncomputable abbrev zbode_354 : List UInt8 := 96 :: zbode_355
noncomputable abbrev zbode_353 : List UInt8 := 5 :: zbode_354
noncomputable abbrev zbode_352 : List UInt8 := 29 :: zbode_353
noncomputable abbrev zbode_351 : List UInt8 := 42 :: zbode_352
noncomputable abbrev zbode_350 : List UInt8 := 46 :: zbode_351
noncomputable abbrev zbode_349 : List UInt8 := 96 :: zbode_350
noncomputable abbrev zbode_348 : List UInt8 := 4 :: zbode_349
noncomputable abbrev zbode_347 : List UInt8 := 29 :: zbode_348
noncomputable abbrev zbode_346 : List UInt8 := 42 :: zbode_347
noncomputable abbrev zbode_345 : List UInt8 := 43 :: zbode_346
noncomputable abbrev zbode_342 : List UInt8 := 167 :: 3 :: 202 :: zbode_345
noncomputable abbrev zbode_341 : List UInt8 := 87 :: zbode_342
noncomputable abbrev zbode_338 : List UInt8 := 182 :: 0 :: 36 :: zbode_341
noncomputable abbrev zbode_337 : List UInt8 := 46 :: zbode_338
noncomputable abbrev zbode_336 : List UInt8 := 96 :: zbode_337
noncomputable abbrev zbode_335 : List UInt8 := 4 :: zbode_336
noncomputable abbrev zbode_334 : List UInt8 := 29 :: zbode_335
noncomputable abbrev zbode_333 : List UInt8 := 42 :: zbode_334
noncomputable abbrev zbode_332 : List UInt8 := 44 :: zbode_333
noncomputable abbrev zbode_331 : List UInt8 := 87 :: zbode_332
noncomputable abbrev zbode_328 : List UInt8 := 182 :: 0 :: 33 :: zbode_331
noncomputable abbrev zbode_327 : List UInt8 := 46 :: zbode_328
noncomputable abbrev zbode_326 : List UInt8 := 96 :: zbode_327
noncomputable abbrev zbode_325 : List UInt8 := 4 :: zbode_326
noncomputable abbrev zbode_324 : List UInt8 := 29 :: zbode_325
noncomputable abbrev zbode_323 : List UInt8 := 42 :: zbode_324
noncomputable abbrev zbode_322 : List UInt8 := 43 :: zbode_323
noncomputable abbrev zbode_319 : List UInt8 := 167 :: 3 :: 225 :: zbode_322
noncomputable abbrev zbode_318 : List UInt8 := 87 :: zbode_319
noncomputable abbrev zbode_315 : List UInt8 := 182 :: 0 :: 32 :: zbode_318
noncomputable abbrev zbode_314 : List UInt8 := 46 :: zbode_315
noncomputable abbrev zbode_313 : List UInt8 := 96 :: zbode_314
noncomputable abbrev zbode_312 : List UInt8 := 4 :: zbode_313
noncomputable abbrev zbode_311 : List UInt8 := 29 :: zbode_312
noncomputable abbrev zbode_310 : List UInt8 := 42 :: zbode_311
noncomputable abbrev zbode_309 : List UInt8 := 44 :: zbode_310
noncomputable abbrev zbode_308 : List UInt8 := 87 :: zbode_309
noncomputable abbrev zbode_305 : List UInt8 := 182 :: 0 :: 28 :: zbode_308
noncomputable abbrev zbode_304 : List UInt8 := 46 :: zbode_305
noncomputable abbrev zbode_303 : List UInt8 := 96 :: zbode_304
noncomputable abbrev zbode_302 : List UInt8 := 4 :: zbode_303
noncomputable abbrev zbode_301 : List UInt8 := 29 :: zbode_302
noncomputable abbrev zbode_300 : List UInt8 := 42 :: zbode_301
noncomputable abbrev zbode_299 : List UInt8 := 43 :: zbode_300
noncomputable abbrev zbode_296 : List UInt8 := 167 :: 3 :: 248 :: zbode_299
noncomputable abbrev zbode_295 : List UInt8 := 87 :: zbode_296
noncomputable abbrev zbode_292 : List UInt8 := 182 :: 0 :: 27 :: zbode_295
noncomputable abbrev zbode_291 : List UInt8 := 44 :: zbode_292
noncomputable abbrev zbode_290 : List UInt8 := 87 :: zbode_291
noncomputable abbrev zbode_287 : List UInt8 := 182 :: 0 :: 23 :: zbode_290
noncomputable abbrev zbode_286 : List UInt8 := 43 :: zbode_287
noncomputable abbrev zbode_283 : List UInt8 := 167 :: 4 :: 5 :: zbode_286
noncomputable abbrev zbode_282 : List UInt8 := 87 :: zbode_283
noncomputable abbrev zbode_279 : List UInt8 := 182 :: 0 :: 22 :: zbode_282
noncomputable abbrev zbode_278 : List UInt8 := 46 :: zbode_279
noncomputable abbrev zbode_277 : List UInt8 := 96 :: zbode_278
noncomputable abbrev zbode_276 : List UInt8 := 4 :: zbode_277
noncomputable abbrev zbode_275 : List UInt8 := 29 :: zbode_276
noncomputable abbrev zbode_274 : List UInt8 := 42 :: zbode_275
noncomputable abbrev zbode_273 : List UInt8 := 44 :: zbode_274
noncomputable abbrev zbode_272 : List UInt8 := 87 :: zbode_273
noncomputable abbrev zbode_269 : List UInt8 := 182 :: 0 :: 18 :: zbode_272
noncomputable abbrev zbode_268 : List UInt8 := 46 :: zbode_269
noncomputable abbrev zbode_267 : List UInt8 := 96 :: zbode_268
noncomputable abbrev zbode_266 : List UInt8 := 4 :: zbode_267
noncomputable abbrev zbode_265 : List UInt8 := 29 :: zbode_266
noncomputable abbrev zbode_264 : List UInt8 := 42 :: zbode_265
noncomputable abbrev zbode_263 : List UInt8 := 43 :: zbode_264
noncomputable abbrev zbode_260 : List UInt8 := 167 :: 4 :: 28 :: zbode_263
noncomputable abbrev zbode_259 : List UInt8 := 87 :: zbode_260
noncomputable abbrev zbode_256 : List UInt8 := 182 :: 0 :: 17 :: zbode_259
noncomputable abbrev zbode_255 : List UInt8 := 46 :: zbode_256
noncomputable abbrev zbode_254 : List UInt8 := 96 :: zbode_255
noncomputable abbrev zbode_253 : List UInt8 := 8 :: zbode_254
noncomputable abbrev zbode_252 : List UInt8 := 29 :: zbode_253
noncomputable abbrev zbode_251 : List UInt8 := 42 :: zbode_252
noncomputable abbrev zbode_250 : List UInt8 := 46 :: zbode_251
noncomputable abbrev zbode_249 : List UInt8 := 96 :: zbode_250
noncomputable abbrev zbode_248 : List UInt8 := 7 :: zbode_249
noncomputable abbrev zbode_247 : List UInt8 := 29 :: zbode_248
noncomputable abbrev zbode_246 : List UInt8 := 42 :: zbode_247
noncomputable abbrev zbode_245 : List UInt8 := 46 :: zbode_246
noncomputable abbrev zbode_244 : List UInt8 := 96 :: zbode_245
noncomputable abbrev zbode_243 : List UInt8 := 6 :: zbode_244
noncomputable abbrev zbode_242 : List UInt8 := 29 :: zbode_243
noncomputable abbrev zbode_241 : List UInt8 := 42 :: zbode_242
noncomputable abbrev zbode_240 : List UInt8 := 46 :: zbode_241
noncomputable abbrev zbode_239 : List UInt8 := 96 :: zbode_240
noncomputable abbrev zbode_238 : List UInt8 := 5 :: zbode_239
noncomputable abbrev zbode_237 : List UInt8 := 29 :: zbode_238
noncomputable abbrev zbode_236 : List UInt8 := 42 :: zbode_237
noncomputable abbrev zbode_235 : List UInt8 := 46 :: zbode_236
noncomputable abbrev zbode_234 : List UInt8 := 96 :: zbode_235
noncomputable abbrev zbode_233 : List UInt8 := 4 :: zbode_234
noncomputable abbrev zbode_232 : List UInt8 := 29 :: zbode_233
noncomputable abbrev zbode_231 : List UInt8 := 42 :: zbode_232
noncomputable abbrev zbode_230 : List UInt8 := 44 :: zbode_231
noncomputable abbrev zbode_229 : List UInt8 := 87 :: zbode_230
noncomputable abbrev zbode_226 : List UInt8 := 182 :: 0 :: 13 :: zbode_229
noncomputable abbrev zbode_225 : List UInt8 := 46 :: zbode_226
noncomputable abbrev zbode_224 : List UInt8 := 96 :: zbode_225
noncomputable abbrev zbode_223 : List UInt8 := 8 :: zbode_224
noncomputable abbrev zbode_222 : List UInt8 := 29 :: zbode_223
noncomputable abbrev zbode_221 : List UInt8 := 42 :: zbode_222
noncomputable abbrev zbode_220 : List UInt8 := 46 :: zbode_221
noncomputable abbrev zbode_219 : List UInt8 := 96 :: zbode_220
noncomputable abbrev zbode_218 : List UInt8 := 7 :: zbode_219
noncomputable abbrev zbode_217 : List UInt8 := 29 :: zbode_218
noncomputable abbrev zbode_216 : List UInt8 := 42 :: zbode_217
noncomputable abbrev zbode_215 : List UInt8 := 46 :: zbode_216
noncomputable abbrev zbode_214 : List UInt8 := 96 :: zbode_215
noncomputable abbrev zbode_213 : List UInt8 := 6 :: zbode_214
noncomputable abbrev zbode_212 : List UInt8 := 29 :: zbode_213
noncomputable abbrev zbode_211 : List UInt8 := 42 :: zbode_212
noncomputable abbrev zbode_210 : List UInt8 := 46 :: zbode_211
noncomputable abbrev zbode_209 : List UInt8 := 96 :: zbode_210
noncomputable abbrev zbode_208 : List UInt8 := 5 :: zbode_209
noncomputable abbrev zbode_207 : List UInt8 := 29 :: zbode_208
noncomputable abbrev zbode_206 : List UInt8 := 42 :: zbode_207
noncomputable abbrev zbode_205 : List UInt8 := 46 :: zbode_206
noncomputable abbrev zbode_204 : List UInt8 := 96 :: zbode_205
noncomputable abbrev zbode_203 : List UInt8 := 4 :: zbode_204
noncomputable abbrev zbode_202 : List UInt8 := 29 :: zbode_203
noncomputable abbrev zbode_201 : List UInt8 := 42 :: zbode_202
noncomputable abbrev zbode_200 : List UInt8 := 43 :: zbode_201
noncomputable abbrev zbode_33 : List UInt8 := 170 :: 0 :: 0 :: 0 :: 0 :: 4 :: 255 :: 0 :: 0 :: 0 :: 0 :: 0 :: 0 :: 0 :: 37 :: 0 :: 0 :: 0 :: 167 :: 0 :: 0 :: 0 :: 230 :: 0 :: 0 :: 0 :: 253 :: 0 :: 0 :: 1 :: 10 :: 0 :: 0 :: 1 :: 33 :: 0 :: 0 :: 1 :: 56 :: 0 :: 0 :: 1 :: 99 :: 0 :: 0 :: 1 :: 132 :: 0 :: 0 :: 1 :: 155 :: 0 :: 0 :: 1 :: 188 :: 0 :: 0 :: 1 :: 221 :: 0 :: 0 :: 1 :: 254 :: 0 :: 0 :: 2 :: 57 :: 0 :: 0 :: 2 :: 80 :: 0 :: 0 :: 2 :: 113 :: 0 :: 0 :: 2 :: 162 :: 0 :: 0 :: 2 :: 211 :: 0 :: 0 :: 2 :: 244 :: 0 :: 0 :: 3 :: 21 :: 0 :: 0 :: 3 :: 34 :: 0 :: 0 :: 3 :: 57 :: 0 :: 0 :: 3 :: 100 :: 0 :: 0 :: 3 :: 133 :: 0 :: 0 :: 3 :: 166 :: 0 :: 0 :: 3 :: 179 :: 0 :: 0 :: 3 :: 202 :: 0 :: 0 :: 3 :: 225 :: 0 :: 0 :: 3 :: 238 :: 0 :: 0 :: 4 :: 5 :: 0 :: 0 :: 4 :: 18 :: 0 :: 0 :: 4 :: 51 :: 0 :: 0 :: 4 :: 84 :: 0 :: 0 :: 4 :: 107 :: 0 :: 0 :: 4 :: 140 :: 0 :: 0 :: 4 :: 183 :: 0 :: 0 :: 4 :: 196 :: 0 :: 0 :: 4 :: 219 :: 0 :: 0 :: 4 :: 232 :: zbode_200
noncomputable abbrev zbode_32 : List UInt8 := 126 :: zbode_33
noncomputable abbrev zbode_30 : List UInt8 := 16 :: 63 :: zbode_32
noncomputable abbrev zbode_29 : List UInt8 := 46 :: zbode_30
noncomputable abbrev zbode_28 : List UInt8 := 29 :: zbode_29
noncomputable abbrev zbode_27 : List UInt8 := 42 :: zbode_28
noncomputable abbrev zbode_24 : List UInt8 := 163 :: 5 :: 14 :: zbode_27
noncomputable abbrev zbode_23 : List UInt8 := 100 :: zbode_24
noncomputable abbrev zbode_21 : List UInt8 := 16 :: 6 :: zbode_23
noncomputable abbrev zbode_20 : List UInt8 := 190 :: zbode_21
noncomputable abbrev zbode_19 : List UInt8 := 42 :: zbode_20
noncomputable abbrev zbode_18 : List UInt8 := 29 :: zbode_19
noncomputable abbrev zbode_17 : List UInt8 := 62 :: zbode_18
noncomputable abbrev zbode_16 : List UInt8 := 3 :: zbode_17
noncomputable abbrev zbode_15 : List UInt8 := 77 :: zbode_16
noncomputable abbrev zbode_12 : List UInt8 := 183 :: 0 :: 12 :: zbode_15
noncomputable abbrev zbode_11 : List UInt8 := 89 :: zbode_12
noncomputable abbrev zbode_8 : List UInt8 := 187 :: 0 :: 10 :: zbode_11
noncomputable abbrev zbode_7 : List UInt8 := 76 :: zbode_8
noncomputable abbrev zbode_4 : List UInt8 := 183 :: 0 :: 9 :: zbode_7
noncomputable abbrev zbode_3 : List UInt8 := 89 :: zbode_4
noncomputable abbrev zbode_0 : List UInt8 := 187 :: 0 :: 7 :: zbode_3
set_option maxRecDepth 1000000 in
theorem zcode_0 : zsf code 0 zbode_0 := rfl
theorem zcode_3 : zsf code 3 zbode_3 := zsf_t3 zcode_0
theorem zcode_4 : zsf code 4 zbode_4 := zsf_t zcode_3
theorem zcode_7 : zsf code 7 zbode_7 := zsf_t3 zcode_4
theorem zcode_8 : zsf code 8 zbode_8 := zsf_t zcode_7
theorem zcode_11 : zsf code 11 zbode_11 := zsf_t3 zcode_8
theorem zcode_12 : zsf code 12 zbode_12 := zsf_t zcode_11
theorem zcode_15 : zsf code 15 zbode_15 := zsf_t3 zcode_12
theorem zcode_16 : zsf code 16 zbode_16 := zsf_t zcode_15
theorem zcode_17 : zsf code 17 zbode_17 := zsf_t zcode_16
theorem zcode_18 : zsf code 18 zbode_18 := zsf_t zcode_17
theorem zcode_19 : zsf code 19 zbode_19 := zsf_t zcode_18
theorem zcode_20 : zsf code 20 zbode_20 := zsf_t zcode_19
theorem zcode_21 : zsf code 21 zbode_21 := zsf_t zcode_20
theorem zcode_23 : zsf code 23 zbode_23 := zsf_t2 zcode_21
theorem zcode_24 : zsf code 24 zbode_24 := zsf_t zcode_23
theorem zcode_27 : zsf code 27 zbode_27 := zsf_t3 zcode_24
theorem zcode_28 : zsf code 28 zbode_28 := zsf_t zcode_27
theorem zcode_29 : zsf code 29 zbode_29 := zsf_t zcode_28
theorem zcode_30 : zsf code 30 zbode_30 := zsf_t zcode_29
theorem zcode_32 : zsf code 32 zbode_32 := zsf_t2 zcode_30
theorem zcode_33 : zsf code 33 zbode_33 := zsf_t zcode_32
theorem zcode_200 : zsf code 200 zbode_200 := zsf_t2 (zsf_t3 (zsf_t3 (zsf_t3 (zsf_t3 (zsf_t3 (zsf_t3 (zsf_t3 (zsf_t3 (zsf_t3 (zsf_t3 (zsf_t3 (zsf_t3 (zsf_t3 (zsf_t3 (zsf_t3 (zsf_t3 (zsf_t3 (zsf_t3 (zsf_t3 (zsf_t3 (zsf_t3 (zsf_t3 (zsf_t3 (zsf_t3 (zsf_t3 (zsf_t3 (zsf_t3 (zsf_t3 (zsf_t3 (zsf_t3 (zsf_t3 (zsf_t3 (zsf_t3 (zsf_t3 (zsf_t3 (zsf_t3 (zsf_t3 (zsf_t3 (zsf_t3 (zsf_t3 (zsf_t3 (zsf_t3 (zsf_t3 (zsf_t3 (zsf_t3 (zsf_t3 (zsf_t3 (zsf_t3 (zsf_t3 (zsf_t3 (zsf_t3 (zsf_t3 (zsf_t3 (zsf_t3 (zsf_t3 zcode_33)))))))))))))))))))))))))))))))))))))))))))))))))))))))
theorem zcode_201 : zsf code 201 zbode_201 := zsf_t zcode_200
theorem zcode_202 : zsf code 202 zbode_202 := zsf_t zcode_201
theorem zcode_203 : zsf code 203 zbode_203 := zsf_t zcode_202
theorem zcode_204 : zsf code 204 zbode_204 := zsf_t zcode_203
theorem zcode_205 : zsf code 205 zbode_205 := zsf_t zcode_204
theorem zcode_206 : zsf code 206 zbode_206 := zsf_t zcode_205
theorem zcode_207 : zsf code 207 zbode_207 := zsf_t zcode_206
theorem zcode_208 : zsf code 208 zbode_208 := zsf_t zcode_207
theorem zcode_209 : zsf code 209 zbode_209 := zsf_t zcode_208
theorem zcode_210 : zsf code 210 zbode_210 := zsf_t zcode_209
theorem zcode_211 : zsf code 211 zbode_211 := zsf_t zcode_210
theorem zcode_212 : zsf code 212 zbode_212 := zsf_t zcode_211
theorem zcode_213 : zsf code 213 zbode_213 := zsf_t zcode_212
theorem zcode_214 : zsf code 214 zbode_214 := zsf_t zcode_213
theorem zcode_215 : zsf code 215 zbode_215 := zsf_t zcode_214
theorem zcode_216 : zsf code 216 zbode_216 := zsf_t zcode_215
theorem zcode_217 : zsf code 217 zbode_217 := zsf_t zcode_216
theorem zcode_218 : zsf code 218 zbode_218 := zsf_t zcode_217
theorem zcode_219 : zsf code 219 zbode_219 := zsf_t zcode_218
theorem zcode_220 : zsf code 220 zbode_220 := zsf_t zcode_219
theorem zcode_221 : zsf code 221 zbode_221 := zsf_t zcode_220
theorem zcode_222 : zsf code 222 zbode_222 := zsf_t zcode_221
theorem zcode_223 : zsf code 223 zbode_223 := zsf_t zcode_222
theorem zcode_224 : zsf code 224 zbode_224 := zsf_t zcode_223
theorem zcode_225 : zsf code 225 zbode_225 := zsf_t zcode_224
theorem zcode_226 : zsf code 226 zbode_226 := zsf_t zcode_225
theorem zcode_229 : zsf code 229 zbode_229 := zsf_t3 zcode_226
theorem zcode_230 : zsf code 230 zbode_230 := zsf_t zcode_229
theorem zcode_231 : zsf code 231 zbode_231 := zsf_t zcode_230
theorem zcode_232 : zsf code 232 zbode_232 := zsf_t zcode_231
theorem zcode_233 : zsf code 233 zbode_233 := zsf_t zcode_232
theorem zcode_234 : zsf code 234 zbode_234 := zsf_t zcode_233
theorem zcode_235 : zsf code 235 zbode_235 := zsf_t zcode_234
theorem zcode_236 : zsf code 236 zbode_236 := zsf_t zcode_235
theorem zcode_237 : zsf code 237 zbode_237 := zsf_t zcode_236
theorem zcode_238 : zsf code 238 zbode_238 := zsf_t zcode_237
theorem zcode_239 : zsf code 239 zbode_239 := zsf_t zcode_238
theorem zcode_240 : zsf code 240 zbode_240 := zsf_t zcode_239
theorem zcode_241 : zsf code 241 zbode_241 := zsf_t zcode_240
theorem zcode_242 : zsf code 242 zbode_242 := zsf_t zcode_241
theorem zcode_243 : zsf code 243 zbode_243 := zsf_t zcode_242
theorem zcode_244 : zsf code 244 zbode_244 := zsf_t zcode_243
theorem zcode_245 : zsf code 245 zbode_245 := zsf_t zcode_244
theorem zcode_246 : zsf code 246 zbode_246 := zsf_t zcode_245
theorem zcode_247 : zsf code 247 zbode_247 := zsf_t zcode_246
theorem zcode_248 : zsf code 248 zbode_248 := zsf_t zcode_247
theorem zcode_249 : zsf code 249 zbode_249 := zsf_t zcode_248
theorem zcode_250 : zsf code 250 zbode_250 := zsf_t zcode_249
theorem zcode_251 : zsf code 251 zbode_251 := zsf_t zcode_250
theorem zcode_252 : zsf code 252 zbode_252 := zsf_t zcode_251
theorem zcode_253 : zsf code 253 zbode_253 := zsf_t zcode_252
theorem zcode_254 : zsf code 254 zbode_254 := zsf_t zcode_253
theorem zcode_255 : zsf code 255 zbode_255 := zsf_t zcode_254
theorem zcode_256 : zsf code 256 zbode_256 := zsf_t zcode_255
theorem zcode_259 : zsf code 259 zbode_259 := zsf_t3 zcode_256
theorem zcode_260 : zsf code 260 zbode_260 := zsf_t zcode_259
theorem zcode_263 : zsf code 263 zbode_263 := zsf_t3 zcode_260
theorem zcode_264 : zsf code 264 zbode_264 := zsf_t zcode_263
theorem zcode_265 : zsf code 265 zbode_265 := zsf_t zcode_264
theorem zcode_266 : zsf code 266 zbode_266 := zsf_t zcode_265
theorem zcode_267 : zsf code 267 zbode_267 := zsf_t zcode_266
theorem zcode_268 : zsf code 268 zbode_268 := zsf_t zcode_267
theorem zcode_269 : zsf code 269 zbode_269 := zsf_t zcode_268
theorem zcode_272 : zsf code 272 zbode_272 := zsf_t3 zcode_269
theorem zcode_273 : zsf code 273 zbode_273 := zsf_t zcode_272
theorem zcode_274 : zsf code 274 zbode_274 := zsf_t zcode_273
theorem zcode_275 : zsf code 275 zbode_275 := zsf_t zcode_274
theorem zcode_276 : zsf code 276 zbode_276 := zsf_t zcode_275
theorem zcode_277 : zsf code 277 zbode_277 := zsf_t zcode_276
theorem zcode_278 : zsf code 278 zbode_278 := zsf_t zcode_277
theorem zcode_279 : zsf code 279 zbode_279 := zsf_t zcode_278
theorem zcode_282 : zsf code 282 zbode_282 := zsf_t3 zcode_279
theorem zcode_283 : zsf code 283 zbode_283 := zsf_t zcode_282
theorem zcode_286 : zsf code 286 zbode_286 := zsf_t3 zcode_283
theorem zcode_287 : zsf code 287 zbode_287 := zsf_t zcode_286
theorem zcode_290 : zsf code 290 zbode_290 := zsf_t3 zcode_287
theorem zcode_291 : zsf code 291 zbode_291 := zsf_t zcode_290
theorem zcode_292 : zsf code 292 zbode_292 := zsf_t zcode_291
theorem zcode_295 : zsf code 295 zbode_295 := zsf_t3 zcode_292
theorem zcode_296 : zsf code 296 zbode_296 := zsf_t zcode_295
theorem zcode_299 : zsf code 299 zbode_299 := zsf_t3 zcode_296
theorem zcode_300 : zsf code 300 zbode_300 := zsf_t zcode_299
theorem zcode_301 : zsf code 301 zbode_301 := zsf_t zcode_300
theorem zcode_302 : zsf code 302 zbode_302 := zsf_t zcode_301
theorem zcode_303 : zsf code 303 zbode_303 := zsf_t zcode_302
theorem zcode_304 : zsf code 304 zbode_304 := zsf_t zcode_303
theorem zcode_305 : zsf code 305 zbode_305 := zsf_t zcode_304
theorem zcode_308 : zsf code 308 zbode_308 := zsf_t3 zcode_305
theorem zcode_309 : zsf code 309 zbode_309 := zsf_t zcode_308
theorem zcode_310 : zsf code 310 zbode_310 := zsf_t zcode_309
theorem zcode_311 : zsf code 311 zbode_311 := zsf_t zcode_310
theorem zcode_312 : zsf code 312 zbode_312 := zsf_t zcode_311
theorem zcode_313 : zsf code 313 zbode_313 := zsf_t zcode_312
theorem zcode_314 : zsf code 314 zbode_314 := zsf_t zcode_313
theorem zcode_315 : zsf code 315 zbode_315 := zsf_t zcode_314
theorem zcode_318 : zsf code 318 zbode_318 := zsf_t3 zcode_315
theorem zcode_319 : zsf code 319 zbode_319 := zsf_t zcode_318
theorem zcode_322 : zsf code 322 zbode_322 := zsf_t3 zcode_319
theorem zcode_323 : zsf code 323 zbode_323 := zsf_t zcode_322
theorem zcode_324 : zsf code 324 zbode_324 := zsf_t zcode_323
theorem zcode_325 : zsf code 325 zbode_325 := zsf_t zcode_324
theorem zcode_326 : zsf code 326 zbode_326 := zsf_t zcode_325
theorem zcode_327 : zsf code 327 zbode_327 := zsf_t zcode_326
theorem zcode_328 : zsf code 328 zbode_328 := zsf_t zcode_327
theorem zcode_331 : zsf code 331 zbode_331 := zsf_t3 zcode_328
theorem zcode_332 : zsf code 332 zbode_332 := zsf_t zcode_331
theorem zcode_333 : zsf code 333 zbode_333 := zsf_t zcode_332
theorem zcode_334 : zsf code 334 zbode_334 := zsf_t zcode_333
theorem zcode_335 : zsf code 335 zbode_335 := zsf_t zcode_334
theorem zcode_336 : zsf code 336 zbode_336 := zsf_t zcode_335
theorem zcode_337 : zsf code 337 zbode_337 := zsf_t zcode_336
theorem zcode_338 : zsf code 338 zbode_338 := zsf_t zcode_337
theorem zcode_341 : zsf code 341 zbode_341 := zsf_t3 zcode_338
theorem zcode_342 : zsf code 342 zbode_342 := zsf_t zcode_341
theorem zcode_345 : zsf code 345 zbode_345 := zsf_t3 zcode_342
theorem zcode_346 : zsf code 346 zbode_346 := zsf_t zcode_345
theorem zcode_347 : zsf code 347 zbode_347 := zsf_t zcode_346
theorem zcode_348 : zsf code 348 zbode_348 := zsf_t zcode_347
theorem zcode_349 : zsf code 349 zbode_349 := zsf_t zcode_348
theorem zcode_350 : zsf code 350 zbode_350 := zsf_t zcode_349
theorem zcode_351 : zsf code 351 zbode_351 := zsf_t zcode_350
theorem zcode_352 : zsf code 352 zbode_352 := zsf_t zcode_351
theorem zcode_353 : zsf code 353 zbode_353 := zsf_t zcode_352
theorem zcode_354 : zsf code 354 zbode_354 := zsf_t zcode_353
theorem zcode_355 : zsf code 355 zbode_355 := zsf_t zcode_354
theorem zcode_356 : zsf code 356 zbode_356 := zsf_t zcode_355
theorem zcode_357 : zsf code 357 zbode_357 := zsf_t zcode_356
theorem zcode_358 : zsf code 358 zbode_358 := zsf_t zcode_357
theorem zcode_359 : zsf code 359 zbode_359 := zsf_t zcode_358
theorem zcode_360 : zsf code 360 zbode_360 := zsf_t zcode_359
theorem zcode_361 : zsf code 361 zbode_361 := zsf_t zcode_360
theorem zcode_364 : zsf code 364 zbode_364 := zsf_t3 zcode_361
theorem zcode_365 : zsf code 365 zbode_365 := zsf_t zcode_364
theorem zcode_366 : zsf code 366 zbode_366 := zsf_t zcode_365
theorem zcode_367 : zsf code 367 zbode_367 := zsf_t zcode_366
theorem zcode_368 : zsf code 368 zbode_368 := zsf_t zcode_367
theorem zcode_369 : zsf code 369 zbode_369 := zsf_t zcode_368
theorem zcode_370 : zsf code 370 zbode_370 := zsf_t zcode_369
theorem zcode_371 : zsf code 371 zbode_371 := zsf_t zcode_370
theorem zcode_372 : zsf code 372 zbode_372 := zsf_t zcode_371
theorem zcode_373 : zsf code 373 zbode_373 := zsf_t zcode_372
theorem zcode_374 : zsf code 374 zbode_374 := zsf_t zcode_373
theorem zcode_375 : zsf code 375 zbode_375 := zsf_t zcode_374
theorem zcode_376 : zsf code 376 zbode_376 := zsf_t zcode_375
theorem zcode_377 : zsf code 377 zbode_377 := zsf_t zcode_376
theorem zcode_378 : zsf code 378 zbode_378 := zsf_t zcode_377
theorem zcode_379 : zsf code 379 zbode_379 := zsf_t zcode_378
theorem zcode_380 : zsf code 380 zbode_380 := zsf_t zcode_379
theorem zcode_383 : zsf code 383 zbode_383 := zsf_t3 zcode_380
theorem zcode_386 : zsf code 386 zbode_386 := zsf_t3 zcode_383
theorem zcode_387 : zsf code 387 zbode_387 := zsf_t zcode_386
theorem zcode_388 : zsf code 388 zbode_388 := zsf_t zcode_387
theorem zcode_389 : zsf code 389 zbode_389 := zsf_t zcode_388
theorem zcode_390 : zsf code 390 zbode_390 := zsf_t zcode_389
theorem zcode_391 : zsf code 391 zbode_391 := zsf_t zcode_390
theorem zcode_392 : zsf code 392 zbode_392 := zsf_t zcode_391
theorem zcode_393 : zsf code 393 zbode_393 := zsf_t zcode_392
theorem zcode_394 : zsf code 394 zbode_394 := zsf_t zcode_393
theorem zcode_395 : zsf code 395 zbode_395 := zsf_t zcode_394
theorem zcode_396 : zsf code 396 zbode_396 := zsf_t zcode_395
theorem zcode_397 : zsf code 397 zbode_397 := zsf_t zcode_396
theorem zcode_398 : zsf code 398 zbode_398 := zsf_t zcode_397
theorem zcode_399 : zsf code 399 zbode_399 := zsf_t zcode_398
theorem zcode_402 : zsf code 402 zbode_402 := zsf_t3 zcode_399
theorem zcode_403 : zsf code 403 zbode_403 := zsf_t zcode_402
theorem zcode_404 : zsf code 404 zbode_404 := zsf_t zcode_403
theorem zcode_405 : zsf code 405 zbode_405 := zsf_t zcode_404
theorem zcode_406 : zsf code 406 zbode_406 := zsf_t zcode_405
theorem zcode_407 : zsf code 407 zbode_407 := zsf_t zcode_406
theorem zcode_408 : zsf code 408 zbode_408 := zsf_t zcode_407
theorem zcode_409 : zsf code 409 zbode_409 := zsf_t zcode_408
theorem zcode_410 : zsf code 410 zbode_410 := zsf_t zcode_409
theorem zcode_411 : zsf code 411 zbode_411 := zsf_t zcode_410
theorem zcode_412 : zsf code 412 zbode_412 := zsf_t zcode_411
theorem zcode_413 : zsf code 413 zbode_413 := zsf_t zcode_412
theorem zcode_414 : zsf code 414 zbode_414 := zsf_t zcode_413
theorem zcode_417 : zsf code 417 zbode_417 := zsf_t3 zcode_414
theorem zcode_418 : zsf code 418 zbode_418 := zsf_t zcode_417
theorem zcode_421 : zsf code 421 zbode_421 := zsf_t3 zcode_418
theorem zcode_422 : zsf code 422 zbode_422 := zsf_t zcode_421
theorem zcode_423 : zsf code 423 zbode_423 := zsf_t zcode_422
theorem zcode_424 : zsf code 424 zbode_424 := zsf_t zcode_423
theorem zcode_425 : zsf code 425 zbode_425 := zsf_t zcode_424
theorem zcode_426 : zsf code 426 zbode_426 := zsf_t zcode_425
theorem zcode_427 : zsf code 427 zbode_427 := zsf_t zcode_426
theorem zcode_430 : zsf code 430 zbode_430 := zsf_t3 zcode_427
theorem zcode_431 : zsf code 431 zbode_431 := zsf_t zcode_430
theorem zcode_432 : zsf code 432 zbode_432 := zsf_t zcode_431
theorem zcode_433 : zsf code 433 zbode_433 := zsf_t zcode_432
theorem zcode_434 : zsf code 434 zbode_434 := zsf_t zcode_433
theorem zcode_435 : zsf code 435 zbode_435 := zsf_t zcode_434
theorem zcode_436 : zsf code 436 zbode_436 := zsf_t zcode_435
theorem zcode_437 : zsf code 437 zbode_437 := zsf_t zcode_436
theorem zcode_440 : zsf code 440 zbode_440 := zsf_t3 zcode_437
theorem zcode_441 : zsf code 441 zbode_441 := zsf_t zcode_440
theorem zcode_444 : zsf code 444 zbode_444 := zsf_t3 zcode_441
theorem zcode_445 : zsf code 445 zbode_445 := zsf_t zcode_444
theorem zcode_446 : zsf code 446 zbode_446 := zsf_t zcode_445
theorem zcode_447 : zsf code 447 zbode_447 := zsf_t zcode_446
theorem zcode_448 : zsf code 448 zbode_448 := zsf_t zcode_447
theorem zcode_449 : zsf code 449 zbode_449 := zsf_t zcode_448
theorem zcode_450 : zsf code 450 zbode_450 := zsf_t zcode_449
theorem zcode_451 : zsf code 451 zbode_451 := zsf_t zcode_450
theorem zcode_452 : zsf code 452 zbode_452 := zsf_t zcode_451
theorem zcode_453 : zsf code 453 zbode_453 := zsf_t zcode_452
theorem zcode_454 : zsf code 454 zbode_454 := zsf_t zcode_453
theorem zcode_455 : zsf code 455 zbode_455 := zsf_t zcode_454
theorem zcode_458 : zsf code 458 zbode_458 := zsf_t3 zcode_455
theorem zcode_459 : zsf code 459 zbode_459 := zsf_t zcode_458
theorem zcode_460 : zsf code 460 zbode_460 := zsf_t zcode_459
theorem zcode_461 : zsf code 461 zbode_461 := zsf_t zcode_460
theorem zcode_462 : zsf code 462 zbode_462 := zsf_t zcode_461
theorem zcode_463 : zsf code 463 zbode_463 := zsf_t zcode_462
theorem zcode_464 : zsf code 464 zbode_464 := zsf_t zcode_463
theorem zcode_465 : zsf code 465 zbode_465 := zsf_t zcode_464
theorem zcode_466 : zsf code 466 zbode_466 := zsf_t zcode_465
theorem zcode_467 : zsf code 467 zbode_467 := zsf_t zcode_466
theorem zcode_468 : zsf code 468 zbode_468 := zsf_t zcode_467
theorem zcode_469 : zsf code 469 zbode_469 := zsf_t zcode_468
theorem zcode_470 : zsf code 470 zbode_470 := zsf_t zcode_469
theorem zcode_473 : zsf code 473 zbode_473 := zsf_t3 zcode_470
theorem zcode_474 : zsf code 474 zbode_474 := zsf_t zcode_473
theorem zcode_477 : zsf code 477 zbode_477 := zsf_t3 zcode_474
theorem zcode_478 : zsf code 478 zbode_478 := zsf_t zcode_477
theorem zcode_479 : zsf code 479 zbode_479 := zsf_t zcode_478
theorem zcode_480 : zsf code 480 zbode_480 := zsf_t zcode_479
theorem zcode_481 : zsf code 481 zbode_481 := zsf_t zcode_480
theorem zcode_482 : zsf code 482 zbode_482 := zsf_t zcode_481
theorem zcode_483 : zsf code 483 zbode_483 := zsf_t zcode_482
theorem zcode_484 : zsf code 484 zbode_484 := zsf_t zcode_483
theorem zcode_485 : zsf code 485 zbode_485 := zsf_t zcode_484
theorem zcode_486 : zsf code 486 zbode_486 := zsf_t zcode_485
theorem zcode_487 : zsf code 487 zbode_487 := zsf_t zcode_486
theorem zcode_488 : zsf code 488 zbode_488 := zsf_t zcode_487
theorem zcode_491 : zsf code 491 zbode_491 := zsf_t3 zcode_488
theorem zcode_492 : zsf code 492 zbode_492 := zsf_t zcode_491
theorem zcode_493 : zsf code 493 zbode_493 := zsf_t zcode_492
theorem zcode_494 : zsf code 494 zbode_494 := zsf_t zcode_493
theorem zcode_495 : zsf code 495 zbode_495 := zsf_t zcode_494
theorem zcode_496 : zsf code 496 zbode_496 := zsf_t zcode_495
theorem zcode_497 : zsf code 497 zbode_497 := zsf_t zcode_496
theorem zcode_498 : zsf code 498 zbode_498 := zsf_t zcode_497
theorem zcode_499 : zsf code 499 zbode_499 := zsf_t zcode_498
theorem zcode_500 : zsf code 500 zbode_500 := zsf_t zcode_499
theorem zcode_501 : zsf code 501 zbode_501 := zsf_t zcode_500
theorem zcode_502 : zsf code 502 zbode_502 := zsf_t zcode_501
theorem zcode_503 : zsf code 503 zbode_503 := zsf_t zcode_502
theorem zcode_506 : zsf code 506 zbode_506 := zsf_t3 zcode_503
theorem zcode_507 : zsf code 507 zbode_507 := zsf_t zcode_506
theorem zcode_510 : zsf code 510 zbode_510 := zsf_t3 zcode_507
theorem zcode_511 : zsf code 511 zbode_511 := zsf_t zcode_510
theorem zcode_512 : zsf code 512 zbode_512 := zsf_t zcode_511
theorem zcode_513 : zsf code 513 zbode_513 := zsf_t zcode_512
theorem zcode_514 : zsf code 514 zbode_514 := zsf_t zcode_513
theorem zcode_515 : zsf code 515 zbode_515 := zsf_t zcode_514
theorem zcode_516 : zsf code 516 zbode_516 := zsf_t zcode_515
theorem zcode_517 : zsf code 517 zbode_517 := zsf_t zcode_516
theorem zcode_518 : zsf code 518 zbode_518 := zsf_t zcode_517
theorem zcode_519 : zsf code 519 zbode_519 := zsf_t zcode_518
theorem zcode_520 : zsf code 520 zbode_520 := zsf_t zcode_519
theorem zcode_521 : zsf code 521 zbode_521 := zsf_t zcode_520
theorem zcode_524 : zsf code 524 zbode_524 := zsf_t3 zcode_521
theorem zcode_525 : zsf code 525 zbode_525 := zsf_t zcode_524
theorem zcode_526 : zsf code 526 zbode_526 := zsf_t zcode_525
theorem zcode_527 : zsf code 527 zbode_527 := zsf_t zcode_526
theorem zcode_528 : zsf code 528 zbode_528 := zsf_t zcode_527
theorem zcode_529 : zsf code 529 zbode_529 := zsf_t zcode_528
theorem zcode_530 : zsf code 530 zbode_530 := zsf_t zcode_529
theorem zcode_531 : zsf code 531 zbode_531 := zsf_t zcode_530
theorem zcode_532 : zsf code 532 zbode_532 := zsf_t zcode_531
theorem zcode_533 : zsf code 533 zbode_533 := zsf_t zcode_532
theorem zcode_534 : zsf code 534 zbode_534 := zsf_t zcode_533
theorem zcode_535 : zsf code 535 zbode_535 := zsf_t zcode_534
theorem zcode_536 : zsf code 536 zbode_536 := zsf_t zcode_535
theorem zcode_539 : zsf code 539 zbode_539 := zsf_t3 zcode_536
theorem zcode_540 : zsf code 540 zbode_540 := zsf_t zcode_539
theorem zcode_543 : zsf code 543 zbode_543 := zsf_t3 zcode_540
theorem zcode_544 : zsf code 544 zbode_544 := zsf_t zcode_543
theorem zcode_545 : zsf code 545 zbode_545 := zsf_t zcode_544
theorem zcode_546 : zsf code 546 zbode_546 := zsf_t zcode_545
theorem zcode_547 : zsf code 547 zbode_547 := zsf_t zcode_546
theorem zcode_548 : zsf code 548 zbode_548 := zsf_t zcode_547
theorem zcode_549 : zsf code 549 zbode_549 := zsf_t zcode_548
theorem zcode_550 : zsf code 550 zbode_550 := zsf_t zcode_549
theorem zcode_551 : zsf code 551 zbode_551 := zsf_t zcode_550
theorem zcode_552 : zsf code 552 zbode_552 := zsf_t zcode_551
theorem zcode_553 : zsf code 553 zbode_553 := zsf_t zcode_552
theorem zcode_554 : zsf code 554 zbode_554 := zsf_t zcode_553
theorem zcode_555 : zsf code 555 zbode_555 := zsf_t zcode_554
theorem zcode_556 : zsf code 556 zbode_556 := zsf_t zcode_555
theorem zcode_557 : zsf code 557 zbode_557 := zsf_t zcode_556
theorem zcode_558 : zsf code 558 zbode_558 := zsf_t zcode_557
theorem zcode_559 : zsf code 559 zbode_559 := zsf_t zcode_558
theorem zcode_562 : zsf code 562 zbode_562 := zsf_t3 zcode_559
theorem zcode_563 : zsf code 563 zbode_563 := zsf_t zcode_562
theorem zcode_566 : zsf code 566 zbode_566 := zsf_t3 zcode_563
theorem zcode_567 : zsf code 567 zbode_567 := zsf_t zcode_566
theorem zcode_570 : zsf code 570 zbode_570 := zsf_t3 zcode_567
theorem zcode_571 : zsf code 571 zbode_571 := zsf_t zcode_570
theorem zcode_572 : zsf code 572 zbode_572 := zsf_t zcode_571
theorem zcode_573 : zsf code 573 zbode_573 := zsf_t zcode_572
theorem zcode_574 : zsf code 574 zbode_574 := zsf_t zcode_573
theorem zcode_575 : zsf code 575 zbode_575 := zsf_t zcode_574
theorem zcode_576 : zsf code 576 zbode_576 := zsf_t zcode_575
theorem zcode_577 : zsf code 577 zbode_577 := zsf_t zcode_576
theorem zcode_578 : zsf code 578 zbode_578 := zsf_t zcode_577
theorem zcode_579 : zsf code 579 zbode_579 := zsf_t zcode_578
theorem zcode_580 : zsf code 580 zbode_580 := zsf_t zcode_579
theorem zcode_581 : zsf code 581 zbode_581 := zsf_t zcode_580
theorem zcode_582 : zsf code 582 zbode_582 := zsf_t zcode_581
theorem zcode_583 : zsf code 583 zbode_583 := zsf_t zcode_582
theorem zcode_584 : zsf code 584 zbode_584 := zsf_t zcode_583
theorem zcode_585 : zsf code 585 zbode_585 := zsf_t zcode_584
theorem zcode_586 : zsf code 586 zbode_586 := zsf_t zcode_585
theorem zcode_587 : zsf code 587 zbode_587 := zsf_t zcode_586
theorem zcode_590 : zsf code 590 zbode_590 := zsf_t3 zcode_587
theorem zcode_591 : zsf code 591 zbode_591 := zsf_t zcode_590
theorem zcode_594 : zsf code 594 zbode_594 := zsf_t3 zcode_591
theorem zcode_595 : zsf code 595 zbode_595 := zsf_t zcode_594
theorem zcode_598 : zsf code 598 zbode_598 := zsf_t3 zcode_595
theorem zcode_599 : zsf code 599 zbode_599 := zsf_t zcode_598
theorem zcode_602 : zsf code 602 zbode_602 := zsf_t3 zcode_599
theorem zcode_603 : zsf code 603 zbode_603 := zsf_t zcode_602
theorem zcode_604 : zsf code 604 zbode_604 := zsf_t zcode_603
theorem zcode_605 : zsf code 605 zbode_605 := zsf_t zcode_604
theorem zcode_606 : zsf code 606 zbode_606 := zsf_t zcode_605
theorem zcode_607 : zsf code 607 zbode_607 := zsf_t zcode_606
theorem zcode_608 : zsf code 608 zbode_608 := zsf_t zcode_607
theorem zcode_611 : zsf code 611 zbode_611 := zsf_t3 zcode_608
theorem zcode_612 : zsf code 612 zbode_612 := zsf_t zcode_611
theorem zcode_613 : zsf code 613 zbode_613 := zsf_t zcode_612
theorem zcode_614 : zsf code 614 zbode_614 := zsf_t zcode_613
theorem zcode_615 : zsf code 615 zbode_615 := zsf_t zcode_614
theorem zcode_616 : zsf code 616 zbode_616 := zsf_t zcode_615
theorem zcode_617 : zsf code 617 zbode_617 := zsf_t zcode_616
theorem zcode_618 : zsf code 618 zbode_618 := zsf_t zcode_617
theorem zcode_621 : zsf code 621 zbode_621 := zsf_t3 zcode_618
theorem zcode_622 : zsf code 622 zbode_622 := zsf_t zcode_621
theorem zcode_625 : zsf code 625 zbode_625 := zsf_t3 zcode_622
theorem zcode_626 : zsf code 626 zbode_626 := zsf_t zcode_625
theorem zcode_627 : zsf code 627 zbode_627 := zsf_t zcode_626
theorem zcode_628 : zsf code 628 zbode_628 := zsf_t zcode_627
theorem zcode_629 : zsf code 629 zbode_629 := zsf_t zcode_628
theorem zcode_630 : zsf code 630 zbode_630 := zsf_t zcode_629
theorem zcode_631 : zsf code 631 zbode_631 := zsf_t zcode_630
theorem zcode_632 : zsf code 632 zbode_632 := zsf_t zcode_631
theorem zcode_633 : zsf code 633 zbode_633 := zsf_t zcode_632
theorem zcode_634 : zsf code 634 zbode_634 := zsf_t zcode_633
theorem zcode_635 : zsf code 635 zbode_635 := zsf_t zcode_634
theorem zcode_636 : zsf code 636 zbode_636 := zsf_t zcode_635
theorem zcode_639 : zsf code 639 zbode_639 := zsf_t3 zcode_636
theorem zcode_640 : zsf code 640 zbode_640 := zsf_t zcode_639
theorem zcode_641 : zsf code 641 zbode_641 := zsf_t zcode_640
theorem zcode_642 : zsf code 642 zbode_642 := zsf_t zcode_641
theorem zcode_643 : zsf code 643 zbode_643 := zsf_t zcode_642
theorem zcode_644 : zsf code 644 zbode_644 := zsf_t zcode_643
theorem zcode_645 : zsf code 645 zbode_645 := zsf_t zcode_644
theorem zcode_646 : zsf code 646 zbode_646 := zsf_t zcode_645
theorem zcode_647 : zsf code 647 zbode_647 := zsf_t zcode_646
theorem zcode_648 : zsf code 648 zbode_648 := zsf_t zcode_647
theorem zcode_649 : zsf code 649 zbode_649 := zsf_t zcode_648
theorem zcode_650 : zsf code 650 zbode_650 := zsf_t zcode_649
theorem zcode_651 : zsf code 651 zbode_651 := zsf_t zcode_650
theorem zcode_654 : zsf code 654 zbode_654 := zsf_t3 zcode_651
theorem zcode_655 : zsf code 655 zbode_655 := zsf_t zcode_654
theorem zcode_658 : zsf code 658 zbode_658 := zsf_t3 zcode_655
theorem zcode_659 : zsf code 659 zbode_659 := zsf_t zcode_658
theorem zcode_660 : zsf code 660 zbode_660 := zsf_t zcode_659
theorem zcode_661 : zsf code 661 zbode_661 := zsf_t zcode_660
theorem zcode_662 : zsf code 662 zbode_662 := zsf_t zcode_661
theorem zcode_663 : zsf code 663 zbode_663 := zsf_t zcode_662
theorem zcode_664 : zsf code 664 zbode_664 := zsf_t zcode_663
theorem zcode_665 : zsf code 665 zbode_665 := zsf_t zcode_664
theorem zcode_666 : zsf code 666 zbode_666 := zsf_t zcode_665
theorem zcode_667 : zsf code 667 zbode_667 := zsf_t zcode_666
theorem zcode_668 : zsf code 668 zbode_668 := zsf_t zcode_667
theorem zcode_669 : zsf code 669 zbode_669 := zsf_t zcode_668
theorem zcode_672 : zsf code 672 zbode_672 := zsf_t3 zcode_669
theorem zcode_673 : zsf code 673 zbode_673 := zsf_t zcode_672
theorem zcode_676 : zsf code 676 zbode_676 := zsf_t3 zcode_673
theorem zcode_677 : zsf code 677 zbode_677 := zsf_t zcode_676
theorem zcode_680 : zsf code 680 zbode_680 := zsf_t3 zcode_677
theorem zcode_681 : zsf code 681 zbode_681 := zsf_t zcode_680
theorem zcode_682 : zsf code 682 zbode_682 := zsf_t zcode_681
theorem zcode_683 : zsf code 683 zbode_683 := zsf_t zcode_682
theorem zcode_684 : zsf code 684 zbode_684 := zsf_t zcode_683
theorem zcode_685 : zsf code 685 zbode_685 := zsf_t zcode_684
theorem zcode_686 : zsf code 686 zbode_686 := zsf_t zcode_685
theorem zcode_687 : zsf code 687 zbode_687 := zsf_t zcode_686
theorem zcode_688 : zsf code 688 zbode_688 := zsf_t zcode_687
theorem zcode_689 : zsf code 689 zbode_689 := zsf_t zcode_688
theorem zcode_690 : zsf code 690 zbode_690 := zsf_t zcode_689
theorem zcode_691 : zsf code 691 zbode_691 := zsf_t zcode_690
theorem zcode_692 : zsf code 692 zbode_692 := zsf_t zcode_691
theorem zcode_695 : zsf code 695 zbode_695 := zsf_t3 zcode_692
theorem zcode_696 : zsf code 696 zbode_696 := zsf_t zcode_695
theorem zcode_699 : zsf code 699 zbode_699 := zsf_t3 zcode_696
theorem zcode_700 : zsf code 700 zbode_700 := zsf_t zcode_699
theorem zcode_703 : zsf code 703 zbode_703 := zsf_t3 zcode_700
theorem zcode_704 : zsf code 704 zbode_704 := zsf_t zcode_703
theorem zcode_707 : zsf code 707 zbode_707 := zsf_t3 zcode_704
theorem zcode_708 : zsf code 708 zbode_708 := zsf_t zcode_707
theorem zcode_709 : zsf code 709 zbode_709 := zsf_t zcode_708
theorem zcode_710 : zsf code 710 zbode_710 := zsf_t zcode_709
theorem zcode_711 : zsf code 711 zbode_711 := zsf_t zcode_710
theorem zcode_712 : zsf code 712 zbode_712 := zsf_t zcode_711
theorem zcode_713 : zsf code 713 zbode_713 := zsf_t zcode_712
theorem zcode_714 : zsf code 714 zbode_714 := zsf_t zcode_713
theorem zcode_715 : zsf code 715 zbode_715 := zsf_t zcode_714
theorem zcode_716 : zsf code 716 zbode_716 := zsf_t zcode_715
theorem zcode_717 : zsf code 717 zbode_717 := zsf_t zcode_716
theorem zcode_718 : zsf code 718 zbode_718 := zsf_t zcode_717
theorem zcode_721 : zsf code 721 zbode_721 := zsf_t3 zcode_718
theorem zcode_722 : zsf code 722 zbode_722 := zsf_t zcode_721
theorem zcode_725 : zsf code 725 zbode_725 := zsf_t3 zcode_722
theorem zcode_726 : zsf code 726 zbode_726 := zsf_t zcode_725
theorem zcode_729 : zsf code 729 zbode_729 := zsf_t3 zcode_726
theorem zcode_730 : zsf code 730 zbode_730 := zsf_t zcode_729
theorem zcode_731 : zsf code 731 zbode_731 := zsf_t zcode_730
theorem zcode_732 : zsf code 732 zbode_732 := zsf_t zcode_731
theorem zcode_733 : zsf code 733 zbode_733 := zsf_t zcode_732
theorem zcode_734 : zsf code 734 zbode_734 := zsf_t zcode_733
theorem zcode_735 : zsf code 735 zbode_735 := zsf_t zcode_734
theorem zcode_736 : zsf code 736 zbode_736 := zsf_t zcode_735
theorem zcode_737 : zsf code 737 zbode_737 := zsf_t zcode_736
theorem zcode_738 : zsf code 738 zbode_738 := zsf_t zcode_737
theorem zcode_739 : zsf code 739 zbode_739 := zsf_t zcode_738
theorem zcode_740 : zsf code 740 zbode_740 := zsf_t zcode_739
theorem zcode_741 : zsf code 741 zbode_741 := zsf_t zcode_740
theorem zcode_744 : zsf code 744 zbode_744 := zsf_t3 zcode_741
theorem zcode_745 : zsf code 745 zbode_745 := zsf_t zcode_744
theorem zcode_748 : zsf code 748 zbode_748 := zsf_t3 zcode_745
theorem zcode_749 : zsf code 749 zbode_749 := zsf_t zcode_748
theorem zcode_752 : zsf code 752 zbode_752 := zsf_t3 zcode_749
theorem zcode_753 : zsf code 753 zbode_753 := zsf_t zcode_752
theorem zcode_756 : zsf code 756 zbode_756 := zsf_t3 zcode_753
theorem zcode_757 : zsf code 757 zbode_757 := zsf_t zcode_756
theorem zcode_758 : zsf code 758 zbode_758 := zsf_t zcode_757
theorem zcode_759 : zsf code 759 zbode_759 := zsf_t zcode_758
theorem zcode_760 : zsf code 760 zbode_760 := zsf_t zcode_759
theorem zcode_761 : zsf code 761 zbode_761 := zsf_t zcode_760
theorem zcode_762 : zsf code 762 zbode_762 := zsf_t zcode_761
theorem zcode_763 : zsf code 763 zbode_763 := zsf_t zcode_762
theorem zcode_764 : zsf code 764 zbode_764 := zsf_t zcode_763
theorem zcode_765 : zsf code 765 zbode_765 := zsf_t zcode_764
theorem zcode_766 : zsf code 766 zbode_766 := zsf_t zcode_765
theorem zcode_767 : zsf code 767 zbode_767 := zsf_t zcode_766
theorem zcode_770 : zsf code 770 zbode_770 := zsf_t3 zcode_767
theorem zcode_771 : zsf code 771 zbode_771 := zsf_t zcode_770
theorem zcode_772 : zsf code 772 zbode_772 := zsf_t zcode_771
theorem zcode_773 : zsf code 773 zbode_773 := zsf_t zcode_772
theorem zcode_774 : zsf code 774 zbode_774 := zsf_t zcode_773
theorem zcode_775 : zsf code 775 zbode_775 := zsf_t zcode_774
theorem zcode_776 : zsf code 776 zbode_776 := zsf_t zcode_775
theorem zcode_777 : zsf code 777 zbode_777 := zsf_t zcode_776
theorem zcode_778 : zsf code 778 zbode_778 := zsf_t zcode_777
theorem zcode_779 : zsf code 779 zbode_779 := zsf_t zcode_778
theorem zcode_780 : zsf code 780 zbode_780 := zsf_t zcode_779
theorem zcode_781 : zsf code 781 zbode_781 := zsf_t zcode_780
theorem zcode_782 : zsf code 782 zbode_782 := zsf_t zcode_781
theorem zcode_785 : zsf code 785 zbode_785 := zsf_t3 zcode_782
theorem zcode_786 : zsf code 786 zbode_786 := zsf_t zcode_785
theorem zcode_789 : zsf code 789 zbode_789 := zsf_t3 zcode_786
theorem zcode_790 : zsf code 790 zbode_790 := zsf_t zcode_789
theorem zcode_791 : zsf code 791 zbode_791 := zsf_t zcode_790
theorem zcode_792 : zsf code 792 zbode_792 := zsf_t zcode_791
theorem zcode_793 : zsf code 793 zbode_793 := zsf_t zcode_792
theorem zcode_794 : zsf code 794 zbode_794 := zsf_t zcode_793
theorem zcode_795 : zsf code 795 zbode_795 := zsf_t zcode_794
theorem zcode_796 : zsf code 796 zbode_796 := zsf_t zcode_795
theorem zcode_797 : zsf code 797 zbode_797 := zsf_t zcode_796
theorem zcode_798 : zsf code 798 zbode_798 := zsf_t zcode_797
theorem zcode_799 : zsf code 799 zbode_799 := zsf_t zcode_798
theorem zcode_800 : zsf code 800 zbode_800 := zsf_t zcode_799
theorem zcode_803 : zsf code 803 zbode_803 := zsf_t3 zcode_800
theorem zcode_804 : zsf code 804 zbode_804 := zsf_t zcode_803
theorem zcode_805 : zsf code 805 zbode_805 := zsf_t zcode_804
theorem zcode_806 : zsf code 806 zbode_806 := zsf_t zcode_805
theorem zcode_807 : zsf code 807 zbode_807 := zsf_t zcode_806
theorem zcode_808 : zsf code 808 zbode_808 := zsf_t zcode_807
theorem zcode_809 : zsf code 809 zbode_809 := zsf_t zcode_808
theorem zcode_810 : zsf code 810 zbode_810 := zsf_t zcode_809
theorem zcode_811 : zsf code 811 zbode_811 := zsf_t zcode_810
theorem zcode_812 : zsf code 812 zbode_812 := zsf_t zcode_811
theorem zcode_813 : zsf code 813 zbode_813 := zsf_t zcode_812
theorem zcode_814 : zsf code 814 zbode_814 := zsf_t zcode_813
theorem zcode_815 : zsf code 815 zbode_815 := zsf_t zcode_814
theorem zcode_818 : zsf code 818 zbode_818 := zsf_t3 zcode_815
theorem zcode_819 : zsf code 819 zbode_819 := zsf_t zcode_818
theorem zcode_822 : zsf code 822 zbode_822 := zsf_t3 zcode_819
theorem zcode_823 : zsf code 823 zbode_823 := zsf_t zcode_822
theorem zcode_826 : zsf code 826 zbode_826 := zsf_t3 zcode_823
theorem zcode_827 : zsf code 827 zbode_827 := zsf_t zcode_826
theorem zcode_828 : zsf code 828 zbode_828 := zsf_t zcode_827
theorem zcode_831 : zsf code 831 zbode_831 := zsf_t3 zcode_828
theorem zcode_832 : zsf code 832 zbode_832 := zsf_t zcode_831
theorem zcode_835 : zsf code 835 zbode_835 := zsf_t3 zcode_832
theorem zcode_836 : zsf code 836 zbode_836 := zsf_t zcode_835
theorem zcode_837 : zsf code 837 zbode_837 := zsf_t zcode_836
theorem zcode_838 : zsf code 838 zbode_838 := zsf_t zcode_837
theorem zcode_839 : zsf code 839 zbode_839 := zsf_t zcode_838
theorem zcode_840 : zsf code 840 zbode_840 := zsf_t zcode_839
theorem zcode_841 : zsf code 841 zbode_841 := zsf_t zcode_840
theorem zcode_844 : zsf code 844 zbode_844 := zsf_t3 zcode_841
theorem zcode_845 : zsf code 845 zbode_845 := zsf_t zcode_844
theorem zcode_846 : zsf code 846 zbode_846 := zsf_t zcode_845
theorem zcode_847 : zsf code 847 zbode_847 := zsf_t zcode_846
theorem zcode_848 : zsf code 848 zbode_848 := zsf_t zcode_847
theorem zcode_849 : zsf code 849 zbode_849 := zsf_t zcode_848
theorem zcode_850 : zsf code 850 zbode_850 := zsf_t zcode_849
theorem zcode_851 : zsf code 851 zbode_851 := zsf_t zcode_850
theorem zcode_854 : zsf code 854 zbode_854 := zsf_t3 zcode_851
theorem zcode_855 : zsf code 855 zbode_855 := zsf_t zcode_854
theorem zcode_858 : zsf code 858 zbode_858 := zsf_t3 zcode_855
theorem zcode_859 : zsf code 859 zbode_859 := zsf_t zcode_858
theorem zcode_860 : zsf code 860 zbode_860 := zsf_t zcode_859
theorem zcode_861 : zsf code 861 zbode_861 := zsf_t zcode_860
theorem zcode_862 : zsf code 862 zbode_862 := zsf_t zcode_861
theorem zcode_863 : zsf code 863 zbode_863 := zsf_t zcode_862
theorem zcode_864 : zsf code 864 zbode_864 := zsf_t zcode_863
theorem zcode_865 : zsf code 865 zbode_865 := zsf_t zcode_864
theorem zcode_866 : zsf code 866 zbode_866 := zsf_t zcode_865
theorem zcode_867 : zsf code 867 zbode_867 := zsf_t zcode_866
theorem zcode_868 : zsf code 868 zbode_868 := zsf_t zcode_867
theorem zcode_869 : zsf code 869 zbode_869 := zsf_t zcode_868
theorem zcode_870 : zsf code 870 zbode_870 := zsf_t zcode_869
theorem zcode_871 : zsf code 871 zbode_871 := zsf_t zcode_870
theorem zcode_872 : zsf code 872 zbode_872 := zsf_t zcode_871
theorem zcode_873 : zsf code 873 zbode_873 := zsf_t zcode_872
theorem zcode_874 : zsf code 874 zbode_874 := zsf_t zcode_873
theorem zcode_877 : zsf code 877 zbode_877 := zsf_t3 zcode_874
theorem zcode_878 : zsf code 878 zbode_878 := zsf_t zcode_877
theorem zcode_879 : zsf code 879 zbode_879 := zsf_t zcode_878
theorem zcode_880 : zsf code 880 zbode_880 := zsf_t zcode_879
theorem zcode_881 : zsf code 881 zbode_881 := zsf_t zcode_880
theorem zcode_882 : zsf code 882 zbode_882 := zsf_t zcode_881
theorem zcode_883 : zsf code 883 zbode_883 := zsf_t zcode_882
theorem zcode_884 : zsf code 884 zbode_884 := zsf_t zcode_883
theorem zcode_885 : zsf code 885 zbode_885 := zsf_t zcode_884
theorem zcode_886 : zsf code 886 zbode_886 := zsf_t zcode_885
theorem zcode_887 : zsf code 887 zbode_887 := zsf_t zcode_886
theorem zcode_888 : zsf code 888 zbode_888 := zsf_t zcode_887
theorem zcode_889 : zsf code 889 zbode_889 := zsf_t zcode_888
theorem zcode_890 : zsf code 890 zbode_890 := zsf_t zcode_889
theorem zcode_891 : zsf code 891 zbode_891 := zsf_t zcode_890
theorem zcode_892 : zsf code 892 zbode_892 := zsf_t zcode_891
theorem zcode_893 : zsf code 893 zbode_893 := zsf_t zcode_892
theorem zcode_894 : zsf code 894 zbode_894 := zsf_t zcode_893
theorem zcode_897 : zsf code 897 zbode_897 := zsf_t3 zcode_894
theorem zcode_898 : zsf code 898 zbode_898 := zsf_t zcode_897
theorem zcode_901 : zsf code 901 zbode_901 := zsf_t3 zcode_898
theorem zcode_902 : zsf code 902 zbode_902 := zsf_t zcode_901
theorem zcode_903 : zsf code 903 zbode_903 := zsf_t zcode_902
theorem zcode_904 : zsf code 904 zbode_904 := zsf_t zcode_903
theorem zcode_905 : zsf code 905 zbode_905 := zsf_t zcode_904
theorem zcode_906 : zsf code 906 zbode_906 := zsf_t zcode_905
theorem zcode_907 : zsf code 907 zbode_907 := zsf_t zcode_906
theorem zcode_908 : zsf code 908 zbode_908 := zsf_t zcode_907
theorem zcode_909 : zsf code 909 zbode_909 := zsf_t zcode_908
theorem zcode_910 : zsf code 910 zbode_910 := zsf_t zcode_909
theorem zcode_911 : zsf code 911 zbode_911 := zsf_t zcode_910
theorem zcode_912 : zsf code 912 zbode_912 := zsf_t zcode_911
theorem zcode_915 : zsf code 915 zbode_915 := zsf_t3 zcode_912
theorem zcode_916 : zsf code 916 zbode_916 := zsf_t zcode_915
theorem zcode_917 : zsf code 917 zbode_917 := zsf_t zcode_916
theorem zcode_918 : zsf code 918 zbode_918 := zsf_t zcode_917
theorem zcode_919 : zsf code 919 zbode_919 := zsf_t zcode_918
theorem zcode_920 : zsf code 920 zbode_920 := zsf_t zcode_919
theorem zcode_921 : zsf code 921 zbode_921 := zsf_t zcode_920
theorem zcode_922 : zsf code 922 zbode_922 := zsf_t zcode_921
theorem zcode_923 : zsf code 923 zbode_923 := zsf_t zcode_922
theorem zcode_924 : zsf code 924 zbode_924 := zsf_t zcode_923
theorem zcode_925 : zsf code 925 zbode_925 := zsf_t zcode_924
theorem zcode_926 : zsf code 926 zbode_926 := zsf_t zcode_925
theorem zcode_927 : zsf code 927 zbode_927 := zsf_t zcode_926
theorem zcode_930 : zsf code 930 zbode_930 := zsf_t3 zcode_927
theorem zcode_931 : zsf code 931 zbode_931 := zsf_t zcode_930
theorem zcode_934 : zsf code 934 zbode_934 := zsf_t3 zcode_931
theorem zcode_935 : zsf code 935 zbode_935 := zsf_t zcode_934
theorem zcode_936 : zsf code 936 zbode_936 := zsf_t zcode_935
theorem zcode_937 : zsf code 937 zbode_937 := zsf_t zcode_936
theorem zcode_938 : zsf code 938 zbode_938 := zsf_t zcode_937
theorem zcode_939 : zsf code 939 zbode_939 := zsf_t zcode_938
theorem zcode_940 : zsf code 940 zbode_940 := zsf_t zcode_939
theorem zcode_941 : zsf code 941 zbode_941 := zsf_t zcode_940
theorem zcode_942 : zsf code 942 zbode_942 := zsf_t zcode_941
theorem zcode_943 : zsf code 943 zbode_943 := zsf_t zcode_942
theorem zcode_944 : zsf code 944 zbode_944 := zsf_t zcode_943
theorem zcode_945 : zsf code 945 zbode_945 := zsf_t zcode_944
theorem zcode_948 : zsf code 948 zbode_948 := zsf_t3 zcode_945
theorem zcode_949 : zsf code 949 zbode_949 := zsf_t zcode_948
theorem zcode_950 : zsf code 950 zbode_950 := zsf_t zcode_949
theorem zcode_951 : zsf code 951 zbode_951 := zsf_t zcode_950
theorem zcode_952 : zsf code 952 zbode_952 := zsf_t zcode_951
theorem zcode_953 : zsf code 953 zbode_953 := zsf_t zcode_952
theorem zcode_954 : zsf code 954 zbode_954 := zsf_t zcode_953
theorem zcode_955 : zsf code 955 zbode_955 := zsf_t zcode_954
theorem zcode_956 : zsf code 956 zbode_956 := zsf_t zcode_955
theorem zcode_957 : zsf code 957 zbode_957 := zsf_t zcode_956
theorem zcode_958 : zsf code 958 zbode_958 := zsf_t zcode_957
theorem zcode_959 : zsf code 959 zbode_959 := zsf_t zcode_958
theorem zcode_960 : zsf code 960 zbode_960 := zsf_t zcode_959
theorem zcode_963 : zsf code 963 zbode_963 := zsf_t3 zcode_960
theorem zcode_964 : zsf code 964 zbode_964 := zsf_t zcode_963
theorem zcode_967 : zsf code 967 zbode_967 := zsf_t3 zcode_964
theorem zcode_968 : zsf code 968 zbode_968 := zsf_t zcode_967
theorem zcode_971 : zsf code 971 zbode_971 := zsf_t3 zcode_968
theorem zcode_972 : zsf code 972 zbode_972 := zsf_t zcode_971
theorem zcode_973 : zsf code 973 zbode_973 := zsf_t zcode_972
theorem zcode_976 : zsf code 976 zbode_976 := zsf_t3 zcode_973
theorem zcode_977 : zsf code 977 zbode_977 := zsf_t zcode_976
theorem zcode_980 : zsf code 980 zbode_980 := zsf_t3 zcode_977
theorem zcode_981 : zsf code 981 zbode_981 := zsf_t zcode_980
theorem zcode_982 : zsf code 982 zbode_982 := zsf_t zcode_981
theorem zcode_983 : zsf code 983 zbode_983 := zsf_t zcode_982
theorem zcode_984 : zsf code 984 zbode_984 := zsf_t zcode_983
theorem zcode_985 : zsf code 985 zbode_985 := zsf_t zcode_984
theorem zcode_986 : zsf code 986 zbode_986 := zsf_t zcode_985
theorem zcode_989 : zsf code 989 zbode_989 := zsf_t3 zcode_986
theorem zcode_990 : zsf code 990 zbode_990 := zsf_t zcode_989
theorem zcode_991 : zsf code 991 zbode_991 := zsf_t zcode_990
theorem zcode_992 : zsf code 992 zbode_992 := zsf_t zcode_991
theorem zcode_993 : zsf code 993 zbode_993 := zsf_t zcode_992
theorem zcode_994 : zsf code 994 zbode_994 := zsf_t zcode_993
theorem zcode_995 : zsf code 995 zbode_995 := zsf_t zcode_994
theorem zcode_996 : zsf code 996 zbode_996 := zsf_t zcode_995
theorem zcode_999 : zsf code 999 zbode_999 := zsf_t3 zcode_996
theorem zcode_1000 : zsf code 1000 zbode_1000 := zsf_t zcode_999
theorem zcode_1003 : zsf code 1003 zbode_1003 := zsf_t3 zcode_1000
theorem zcode_1004 : zsf code 1004 zbode_1004 := zsf_t zcode_1003
theorem zcode_1005 : zsf code 1005 zbode_1005 := zsf_t zcode_1004
theorem zcode_1006 : zsf code 1006 zbode_1006 := zsf_t zcode_1005
theorem zcode_1007 : zsf code 1007 zbode_1007 := zsf_t zcode_1006
theorem zcode_1008 : zsf code 1008 zbode_1008 := zsf_t zcode_1007
theorem zcode_1009 : zsf code 1009 zbode_1009 := zsf_t zcode_1008
theorem zcode_1012 : zsf code 1012 zbode_1012 := zsf_t3 zcode_1009
theorem zcode_1013 : zsf code 1013 zbode_1013 := zsf_t zcode_1012
theorem zcode_1014 : zsf code 1014 zbode_1014 := zsf_t zcode_1013
theorem zcode_1015 : zsf code 1015 zbode_1015 := zsf_t zcode_1014
theorem zcode_1016 : zsf code 1016 zbode_1016 := zsf_t zcode_1015
theorem zcode_1017 : zsf code 1017 zbode_1017 := zsf_t zcode_1016
theorem zcode_1018 : zsf code 1018 zbode_1018 := zsf_t zcode_1017
theorem zcode_1019 : zsf code 1019 zbode_1019 := zsf_t zcode_1018
theorem zcode_1022 : zsf code 1022 zbode_1022 := zsf_t3 zcode_1019
theorem zcode_1023 : zsf code 1023 zbode_1023 := zsf_t zcode_1022
theorem zcode_1026 : zsf code 1026 zbode_1026 := zsf_t3 zcode_1023
theorem zcode_1027 : zsf code 1027 zbode_1027 := zsf_t zcode_1026
theorem zcode_1030 : zsf code 1030 zbode_1030 := zsf_t3 zcode_1027
theorem zcode_1031 : zsf code 1031 zbode_1031 := zsf_t zcode_1030
theorem zcode_1032 : zsf code 1032 zbode_1032 := zsf_t zcode_1031
theorem zcode_1035 : zsf code 1035 zbode_1035 := zsf_t3 zcode_1032
theorem zcode_1036 : zsf code 1036 zbode_1036 := zsf_t zcode_1035
theorem zcode_1039 : zsf code 1039 zbode_1039 := zsf_t3 zcode_1036
theorem zcode_1040 : zsf code 1040 zbode_1040 := zsf_t zcode_1039
theorem zcode_1041 : zsf code 1041 zbode_1041 := zsf_t zcode_1040
theorem zcode_1042 : zsf code 1042 zbode_1042 := zsf_t zcode_1041
theorem zcode_1043 : zsf code 1043 zbode_1043 := zsf_t zcode_1042
theorem zcode_1044 : zsf code 1044 zbode_1044 := zsf_t zcode_1043
theorem zcode_1045 : zsf code 1045 zbode_1045 := zsf_t zcode_1044
theorem zcode_1048 : zsf code 1048 zbode_1048 := zsf_t3 zcode_1045
theorem zcode_1049 : zsf code 1049 zbode_1049 := zsf_t zcode_1048
theorem zcode_1050 : zsf code 1050 zbode_1050 := zsf_t zcode_1049
theorem zcode_1051 : zsf code 1051 zbode_1051 := zsf_t zcode_1050
theorem zcode_1052 : zsf code 1052 zbode_1052 := zsf_t zcode_1051
theorem zcode_1053 : zsf code 1053 zbode_1053 := zsf_t zcode_1052
theorem zcode_1054 : zsf code 1054 zbode_1054 := zsf_t zcode_1053
theorem zcode_1055 : zsf code 1055 zbode_1055 := zsf_t zcode_1054
theorem zcode_1058 : zsf code 1058 zbode_1058 := zsf_t3 zcode_1055
theorem zcode_1059 : zsf code 1059 zbode_1059 := zsf_t zcode_1058
theorem zcode_1062 : zsf code 1062 zbode_1062 := zsf_t3 zcode_1059
theorem zcode_1063 : zsf code 1063 zbode_1063 := zsf_t zcode_1062
theorem zcode_1066 : zsf code 1066 zbode_1066 := zsf_t3 zcode_1063
theorem zcode_1067 : zsf code 1067 zbode_1067 := zsf_t zcode_1066
theorem zcode_1068 : zsf code 1068 zbode_1068 := zsf_t zcode_1067
theorem zcode_1071 : zsf code 1071 zbode_1071 := zsf_t3 zcode_1068
theorem zcode_1072 : zsf code 1072 zbode_1072 := zsf_t zcode_1071
theorem zcode_1075 : zsf code 1075 zbode_1075 := zsf_t3 zcode_1072
theorem zcode_1076 : zsf code 1076 zbode_1076 := zsf_t zcode_1075
theorem zcode_1077 : zsf code 1077 zbode_1077 := zsf_t zcode_1076
theorem zcode_1078 : zsf code 1078 zbode_1078 := zsf_t zcode_1077
theorem zcode_1079 : zsf code 1079 zbode_1079 := zsf_t zcode_1078
theorem zcode_1080 : zsf code 1080 zbode_1080 := zsf_t zcode_1079
theorem zcode_1081 : zsf code 1081 zbode_1081 := zsf_t zcode_1080
theorem zcode_1082 : zsf code 1082 zbode_1082 := zsf_t zcode_1081
theorem zcode_1083 : zsf code 1083 zbode_1083 := zsf_t zcode_1082
theorem zcode_1084 : zsf code 1084 zbode_1084 := zsf_t zcode_1083
theorem zcode_1085 : zsf code 1085 zbode_1085 := zsf_t zcode_1084
theorem zcode_1086 : zsf code 1086 zbode_1086 := zsf_t zcode_1085
theorem zcode_1089 : zsf code 1089 zbode_1089 := zsf_t3 zcode_1086
theorem zcode_1090 : zsf code 1090 zbode_1090 := zsf_t zcode_1089
theorem zcode_1091 : zsf code 1091 zbode_1091 := zsf_t zcode_1090
theorem zcode_1092 : zsf code 1092 zbode_1092 := zsf_t zcode_1091
theorem zcode_1093 : zsf code 1093 zbode_1093 := zsf_t zcode_1092
theorem zcode_1094 : zsf code 1094 zbode_1094 := zsf_t zcode_1093
theorem zcode_1095 : zsf code 1095 zbode_1095 := zsf_t zcode_1094
theorem zcode_1096 : zsf code 1096 zbode_1096 := zsf_t zcode_1095
theorem zcode_1097 : zsf code 1097 zbode_1097 := zsf_t zcode_1096
theorem zcode_1098 : zsf code 1098 zbode_1098 := zsf_t zcode_1097
theorem zcode_1099 : zsf code 1099 zbode_1099 := zsf_t zcode_1098
theorem zcode_1100 : zsf code 1100 zbode_1100 := zsf_t zcode_1099
theorem zcode_1101 : zsf code 1101 zbode_1101 := zsf_t zcode_1100
theorem zcode_1104 : zsf code 1104 zbode_1104 := zsf_t3 zcode_1101
theorem zcode_1105 : zsf code 1105 zbode_1105 := zsf_t zcode_1104
theorem zcode_1108 : zsf code 1108 zbode_1108 := zsf_t3 zcode_1105
theorem zcode_1109 : zsf code 1109 zbode_1109 := zsf_t zcode_1108
theorem zcode_1110 : zsf code 1110 zbode_1110 := zsf_t zcode_1109
theorem zcode_1111 : zsf code 1111 zbode_1111 := zsf_t zcode_1110
theorem zcode_1112 : zsf code 1112 zbode_1112 := zsf_t zcode_1111
theorem zcode_1113 : zsf code 1113 zbode_1113 := zsf_t zcode_1112
theorem zcode_1114 : zsf code 1114 zbode_1114 := zsf_t zcode_1113
theorem zcode_1115 : zsf code 1115 zbode_1115 := zsf_t zcode_1114
theorem zcode_1116 : zsf code 1116 zbode_1116 := zsf_t zcode_1115
theorem zcode_1117 : zsf code 1117 zbode_1117 := zsf_t zcode_1116
theorem zcode_1118 : zsf code 1118 zbode_1118 := zsf_t zcode_1117
theorem zcode_1119 : zsf code 1119 zbode_1119 := zsf_t zcode_1118
theorem zcode_1122 : zsf code 1122 zbode_1122 := zsf_t3 zcode_1119
theorem zcode_1123 : zsf code 1123 zbode_1123 := zsf_t zcode_1122
theorem zcode_1124 : zsf code 1124 zbode_1124 := zsf_t zcode_1123
theorem zcode_1125 : zsf code 1125 zbode_1125 := zsf_t zcode_1124
theorem zcode_1126 : zsf code 1126 zbode_1126 := zsf_t zcode_1125
theorem zcode_1127 : zsf code 1127 zbode_1127 := zsf_t zcode_1126
theorem zcode_1128 : zsf code 1128 zbode_1128 := zsf_t zcode_1127
theorem zcode_1129 : zsf code 1129 zbode_1129 := zsf_t zcode_1128
theorem zcode_1130 : zsf code 1130 zbode_1130 := zsf_t zcode_1129
theorem zcode_1131 : zsf code 1131 zbode_1131 := zsf_t zcode_1130
theorem zcode_1132 : zsf code 1132 zbode_1132 := zsf_t zcode_1131
theorem zcode_1133 : zsf code 1133 zbode_1133 := zsf_t zcode_1132
theorem zcode_1134 : zsf code 1134 zbode_1134 := zsf_t zcode_1133
theorem zcode_1137 : zsf code 1137 zbode_1137 := zsf_t3 zcode_1134
theorem zcode_1138 : zsf code 1138 zbode_1138 := zsf_t zcode_1137
theorem zcode_1141 : zsf code 1141 zbode_1141 := zsf_t3 zcode_1138
theorem zcode_1142 : zsf code 1142 zbode_1142 := zsf_t zcode_1141
theorem zcode_1143 : zsf code 1143 zbode_1143 := zsf_t zcode_1142
theorem zcode_1144 : zsf code 1144 zbode_1144 := zsf_t zcode_1143
theorem zcode_1145 : zsf code 1145 zbode_1145 := zsf_t zcode_1144
theorem zcode_1146 : zsf code 1146 zbode_1146 := zsf_t zcode_1145
theorem zcode_1147 : zsf code 1147 zbode_1147 := zsf_t zcode_1146
theorem zcode_1150 : zsf code 1150 zbode_1150 := zsf_t3 zcode_1147
theorem zcode_1151 : zsf code 1151 zbode_1151 := zsf_t zcode_1150
theorem zcode_1152 : zsf code 1152 zbode_1152 := zsf_t zcode_1151
theorem zcode_1153 : zsf code 1153 zbode_1153 := zsf_t zcode_1152
theorem zcode_1154 : zsf code 1154 zbode_1154 := zsf_t zcode_1153
theorem zcode_1155 : zsf code 1155 zbode_1155 := zsf_t zcode_1154
theorem zcode_1156 : zsf code 1156 zbode_1156 := zsf_t zcode_1155
theorem zcode_1157 : zsf code 1157 zbode_1157 := zsf_t zcode_1156
theorem zcode_1160 : zsf code 1160 zbode_1160 := zsf_t3 zcode_1157
theorem zcode_1161 : zsf code 1161 zbode_1161 := zsf_t zcode_1160
theorem zcode_1164 : zsf code 1164 zbode_1164 := zsf_t3 zcode_1161
theorem zcode_1165 : zsf code 1165 zbode_1165 := zsf_t zcode_1164
theorem zcode_1166 : zsf code 1166 zbode_1166 := zsf_t zcode_1165
theorem zcode_1167 : zsf code 1167 zbode_1167 := zsf_t zcode_1166
theorem zcode_1168 : zsf code 1168 zbode_1168 := zsf_t zcode_1167
theorem zcode_1169 : zsf code 1169 zbode_1169 := zsf_t zcode_1168
theorem zcode_1170 : zsf code 1170 zbode_1170 := zsf_t zcode_1169
theorem zcode_1171 : zsf code 1171 zbode_1171 := zsf_t zcode_1170
theorem zcode_1172 : zsf code 1172 zbode_1172 := zsf_t zcode_1171
theorem zcode_1173 : zsf code 1173 zbode_1173 := zsf_t zcode_1172
theorem zcode_1174 : zsf code 1174 zbode_1174 := zsf_t zcode_1173
theorem zcode_1175 : zsf code 1175 zbode_1175 := zsf_t zcode_1174
theorem zcode_1178 : zsf code 1178 zbode_1178 := zsf_t3 zcode_1175
theorem zcode_1179 : zsf code 1179 zbode_1179 := zsf_t zcode_1178
theorem zcode_1180 : zsf code 1180 zbode_1180 := zsf_t zcode_1179
theorem zcode_1181 : zsf code 1181 zbode_1181 := zsf_t zcode_1180
theorem zcode_1182 : zsf code 1182 zbode_1182 := zsf_t zcode_1181
theorem zcode_1183 : zsf code 1183 zbode_1183 := zsf_t zcode_1182
theorem zcode_1184 : zsf code 1184 zbode_1184 := zsf_t zcode_1183
theorem zcode_1185 : zsf code 1185 zbode_1185 := zsf_t zcode_1184
theorem zcode_1186 : zsf code 1186 zbode_1186 := zsf_t zcode_1185
theorem zcode_1187 : zsf code 1187 zbode_1187 := zsf_t zcode_1186
theorem zcode_1188 : zsf code 1188 zbode_1188 := zsf_t zcode_1187
theorem zcode_1189 : zsf code 1189 zbode_1189 := zsf_t zcode_1188
theorem zcode_1190 : zsf code 1190 zbode_1190 := zsf_t zcode_1189
theorem zcode_1193 : zsf code 1193 zbode_1193 := zsf_t3 zcode_1190
theorem zcode_1194 : zsf code 1194 zbode_1194 := zsf_t zcode_1193
theorem zcode_1197 : zsf code 1197 zbode_1197 := zsf_t3 zcode_1194
theorem zcode_1198 : zsf code 1198 zbode_1198 := zsf_t zcode_1197
theorem zcode_1199 : zsf code 1199 zbode_1199 := zsf_t zcode_1198
theorem zcode_1200 : zsf code 1200 zbode_1200 := zsf_t zcode_1199
theorem zcode_1201 : zsf code 1201 zbode_1201 := zsf_t zcode_1200
theorem zcode_1202 : zsf code 1202 zbode_1202 := zsf_t zcode_1201
theorem zcode_1203 : zsf code 1203 zbode_1203 := zsf_t zcode_1202
theorem zcode_1204 : zsf code 1204 zbode_1204 := zsf_t zcode_1203
theorem zcode_1205 : zsf code 1205 zbode_1205 := zsf_t zcode_1204
theorem zcode_1206 : zsf code 1206 zbode_1206 := zsf_t zcode_1205
theorem zcode_1207 : zsf code 1207 zbode_1207 := zsf_t zcode_1206
theorem zcode_1208 : zsf code 1208 zbode_1208 := zsf_t zcode_1207
theorem zcode_1209 : zsf code 1209 zbode_1209 := zsf_t zcode_1208
theorem zcode_1210 : zsf code 1210 zbode_1210 := zsf_t zcode_1209
theorem zcode_1211 : zsf code 1211 zbode_1211 := zsf_t zcode_1210
theorem zcode_1212 : zsf code 1212 zbode_1212 := zsf_t zcode_1211
theorem zcode_1213 : zsf code 1213 zbode_1213 := zsf_t zcode_1212
theorem zcode_1216 : zsf code 1216 zbode_1216 := zsf_t3 zcode_1213
theorem zcode_1217 : zsf code 1217 zbode_1217 := zsf_t zcode_1216
theorem zcode_1218 : zsf code 1218 zbode_1218 := zsf_t zcode_1217
theorem zcode_1219 : zsf code 1219 zbode_1219 := zsf_t zcode_1218
theorem zcode_1220 : zsf code 1220 zbode_1220 := zsf_t zcode_1219
theorem zcode_1221 : zsf code 1221 zbode_1221 := zsf_t zcode_1220
theorem zcode_1222 : zsf code 1222 zbode_1222 := zsf_t zcode_1221
theorem zcode_1223 : zsf code 1223 zbode_1223 := zsf_t zcode_1222
theorem zcode_1224 : zsf code 1224 zbode_1224 := zsf_t zcode_1223
theorem zcode_1225 : zsf code 1225 zbode_1225 := zsf_t zcode_1224
theorem zcode_1226 : zsf code 1226 zbode_1226 := zsf_t zcode_1225
theorem zcode_1227 : zsf code 1227 zbode_1227 := zsf_t zcode_1226
theorem zcode_1228 : zsf code 1228 zbode_1228 := zsf_t zcode_1227
theorem zcode_1229 : zsf code 1229 zbode_1229 := zsf_t zcode_1228
theorem zcode_1230 : zsf code 1230 zbode_1230 := zsf_t zcode_1229
theorem zcode_1231 : zsf code 1231 zbode_1231 := zsf_t zcode_1230
theorem zcode_1232 : zsf code 1232 zbode_1232 := zsf_t zcode_1231
theorem zcode_1233 : zsf code 1233 zbode_1233 := zsf_t zcode_1232
theorem zcode_1236 : zsf code 1236 zbode_1236 := zsf_t3 zcode_1233
theorem zcode_1237 : zsf code 1237 zbode_1237 := zsf_t zcode_1236
theorem zcode_1240 : zsf code 1240 zbode_1240 := zsf_t3 zcode_1237
theorem zcode_1241 : zsf code 1241 zbode_1241 := zsf_t zcode_1240
theorem zcode_1244 : zsf code 1244 zbode_1244 := zsf_t3 zcode_1241
theorem zcode_1245 : zsf code 1245 zbode_1245 := zsf_t zcode_1244
theorem zcode_1246 : zsf code 1246 zbode_1246 := zsf_t zcode_1245
theorem zcode_1249 : zsf code 1249 zbode_1249 := zsf_t3 zcode_1246
theorem zcode_1250 : zsf code 1250 zbode_1250 := zsf_t zcode_1249
theorem zcode_1253 : zsf code 1253 zbode_1253 := zsf_t3 zcode_1250
theorem zcode_1254 : zsf code 1254 zbode_1254 := zsf_t zcode_1253
theorem zcode_1255 : zsf code 1255 zbode_1255 := zsf_t zcode_1254
theorem zcode_1256 : zsf code 1256 zbode_1256 := zsf_t zcode_1255
theorem zcode_1257 : zsf code 1257 zbode_1257 := zsf_t zcode_1256
theorem zcode_1258 : zsf code 1258 zbode_1258 := zsf_t zcode_1257
theorem zcode_1259 : zsf code 1259 zbode_1259 := zsf_t zcode_1258
theorem zcode_1262 : zsf code 1262 zbode_1262 := zsf_t3 zcode_1259
theorem zcode_1263 : zsf code 1263 zbode_1263 := zsf_t zcode_1262
theorem zcode_1264 : zsf code 1264 zbode_1264 := zsf_t zcode_1263
theorem zcode_1265 : zsf code 1265 zbode_1265 := zsf_t zcode_1264
theorem zcode_1266 : zsf code 1266 zbode_1266 := zsf_t zcode_1265
theorem zcode_1267 : zsf code 1267 zbode_1267 := zsf_t zcode_1266
theorem zcode_1268 : zsf code 1268 zbode_1268 := zsf_t zcode_1267
theorem zcode_1269 : zsf code 1269 zbode_1269 := zsf_t zcode_1268
theorem zcode_1272 : zsf code 1272 zbode_1272 := zsf_t3 zcode_1269
theorem zcode_1273 : zsf code 1273 zbode_1273 := zsf_t zcode_1272
theorem zcode_1276 : zsf code 1276 zbode_1276 := zsf_t3 zcode_1273
theorem zcode_1277 : zsf code 1277 zbode_1277 := zsf_t zcode_1276
theorem zcode_1280 : zsf code 1280 zbode_1280 := zsf_t3 zcode_1277
theorem zcode_1281 : zsf code 1281 zbode_1281 := zsf_t zcode_1280
theorem zcode_1282 : zsf code 1282 zbode_1282 := zsf_t zcode_1281
theorem zcode_1285 : zsf code 1285 zbode_1285 := zsf_t3 zcode_1282
theorem zcode_1286 : zsf code 1286 zbode_1286 := zsf_t zcode_1285
theorem zcode_1289 : zsf code 1289 zbode_1289 := zsf_t3 zcode_1286
theorem zcode_1290 : zsf code 1290 zbode_1290 := zsf_t zcode_1289
theorem zcode_1291 : zsf code 1291 zbode_1291 := zsf_t zcode_1290
theorem zcode_1292 : zsf code 1292 zbode_1292 := zsf_t zcode_1291
theorem zcode_1293 : zsf code 1293 zbode_1293 := zsf_t zcode_1292
theorem zcode_1294 : zsf code 1294 zbode_1294 := zsf_t zcode_1293
theorem zcode_1295 : zsf code 1295 zbode_1295 := zsf_t zcode_1294
theorem zcode_1298 : zsf code 1298 zbode_1298 := zsf_t3 zcode_1295
theorem zcode_1299 : zsf code 1299 zbode_1299 := zsf_t zcode_1298
theorem zcode_1300 : zsf code 1300 zbode_1300 := zsf_t zcode_1299
theorem zcode_1301 : zsf code 1301 zbode_1301 := zsf_t zcode_1300
theorem zcode_1302 : zsf code 1302 zbode_1302 := zsf_t zcode_1301
theorem zcode_1303 : zsf code 1303 zbode_1303 := zsf_t zcode_1302
theorem zcode_1304 : zsf code 1304 zbode_1304 := zsf_t zcode_1303
theorem zcode_1305 : zsf code 1305 zbode_1305 := zsf_t zcode_1304
theorem zcode_1308 : zsf code 1308 zbode_1308 := zsf_t3 zcode_1305
theorem zcode_1309 : zsf code 1309 zbode_1309 := zsf_t zcode_1308
theorem zcode_1312 : zsf code 1312 zbode_1312 := zsf_t3 zcode_1309
theorem zcode_1315 : zsf code 1315 zbode_1315 := zsf_t3 zcode_1312
theorem zcode_1318 : zsf code 1318 zbode_1318 := zsf_t3 zcode_1315
theorem zcode_1319 : zsf code 1319 zbode_1319 := zsf_t zcode_1318
theorem zcode_1320 : zsf code 1320 zbode_1320 := zsf_t zcode_1319
theorem dl_0 : decode code 0 = .ok (.new 7, 3) := ze_187 zcode_0 rfl
theorem dl_3 : decode code 3 = .ok (.dup, 1) := ze_89 zcode_3
theorem dl_4 : decode code 4 = .ok (.invokespecial 9, 3) := ze_183 zcode_4 rfl
theorem dl_7 : decode code 7 = .ok (.astore_n 1, 1) := ze_76 zcode_7
theorem dl_8 : decode code 8 = .ok (.new 10, 3) := ze_187 zcode_8 rfl
theorem dl_11 : decode code 11 = .ok (.dup, 1) := ze_89 zcode_11
theorem dl_12 : decode code 12 = .ok (.invokespecial 12, 3) := ze_183 zcode_12 rfl
theorem dl_15 : decode code 15 = .ok (.astore_n 2, 1) := ze_77 zcode_15
theorem dl_16 : decode code 16 = .ok (.iconst 0, 1) := ze_3 zcode_16
theorem dl_17 : decode code 17 = .ok (.istore_n 3, 1) := ze_62 zcode_17
theorem dl_18 : decode code 18 = .ok (.iload_n 3, 1) := ze_29 zcode_18
theorem dl_19 : decode code 19 = .ok (.aload_n 0, 1) := ze_42 zcode_19
theorem dl_20 : decode code 20 = .ok (.arraylength, 1) := ze_190 zcode_20
theorem dl_21 : decode code 21 = .ok (.bipush 6, 2) := ze_16 zcode_21 (u := 6) rfl (Nat.le_of_ble_eq_true rfl)
theorem dl_23 : decode code 23 = .ok (.isub, 1) := ze_100 zcode_23
theorem dl_24 : decode code 24 = .ok (.if_icmp .gt 1294, 3) := ze_163 zcode_24 (u := 1294) rfl (Nat.le_of_ble_eq_true rfl)
theorem dl_27 : decode code 27 = .ok (.aload_n 0, 1) := ze_42 zcode_27
theorem dl_28 : decode code 28 = .ok (.iload_n 3, 1) := ze_29 zcode_28
theorem dl_29 : decode code 29 = .ok (.iaload, 1) := ze_46 zcode_29
theorem dl_30 : decode code 30 = .ok (.bipush 63, 2) := ze_16 zcode_30 (u := 63) rfl (Nat.le_of_ble_eq_true rfl)
theorem dl_32 : decode code 32 = .ok (.iand, 1) := ze_126 zcode_32
theorem dl_33 : decode code 33 = .ok (.tableswitch 1279 0 37 #[167, 230, 253, 266, 289, 312, 355, 388, 411, 444, 477, 510, 569, 592, 625, 674, 723, 756, 789, 802, 825, 868, 901, 934, 947, 970, 993, 1006, 1029, 1042, 1075, 1108, 1131, 1164, 1207, 1220, 1243, 1256], 167) := by decide +kernel
theorem dl_200 : decode code 200 = .ok (.aload_n 1, 1) := ze_43 zcode_200
theorem dl_201 : decode code 201 = .ok (.aload_n 0, 1) := ze_42 zcode_201
theorem dl_202 : decode code 202 = .ok (.iload_n 3, 1) := ze_29 zcode_202
theorem dl_203 : decode code 203 = .ok (.iconst 1, 1) := ze_4 zcode_203
theorem dl_204 : decode code 204 = .ok (.iadd, 1) := ze_96 zcode_204
theorem dl_205 : decode code 205 = .ok (.iaload, 1) := ze_46 zcode_205
theorem dl_206 : decode code 206 = .ok (.aload_n 0, 1) := ze_42 zcode_206
theorem dl_207 : decode code 207 = .ok (.iload_n 3, 1) := ze_29 zcode_207
theorem dl_208 : decode code 208 = .ok (.iconst 2, 1) := ze_5 zcode_208
theorem dl_209 : decode code 209 = .ok (.iadd, 1) := ze_96 zcode_209
theorem dl_210 : decode code 210 = .ok (.iaload, 1) := ze_46 zcode_210
theorem dl_211 : decode code 211 = .ok (.aload_n 0, 1) := ze_42 zcode_211
theorem dl_212 : decode code 212 = .ok (.iload_n 3, 1) := ze_29 zcode_212
theorem dl_213 : decode code 213 = .ok (.iconst 3, 1) := ze_6 zcode_213
theorem dl_214 : decode code 214 = .ok (.iadd, 1) := ze_96 zcode_214
theorem dl_215 : decode code 215 = .ok (.iaload, 1) := ze_46 zcode_215
theorem dl_216 : decode code 216 = .ok (.aload_n 0, 1) := ze_42 zcode_216
theorem dl_217 : decode code 217 = .ok (.iload_n 3, 1) := ze_29 zcode_217
theorem dl_218 : decode code 218 = .ok (.iconst 4, 1) := ze_7 zcode_218
theorem dl_219 : decode code 219 = .ok (.iadd, 1) := ze_96 zcode_219
theorem dl_220 : decode code 220 = .ok (.iaload, 1) := ze_46 zcode_220
theorem dl_221 : decode code 221 = .ok (.aload_n 0, 1) := ze_42 zcode_221
theorem dl_222 : decode code 222 = .ok (.iload_n 3, 1) := ze_29 zcode_222
theorem dl_223 : decode code 223 = .ok (.iconst 5, 1) := ze_8 zcode_223
theorem dl_224 : decode code 224 = .ok (.iadd, 1) := ze_96 zcode_224
theorem dl_225 : decode code 225 = .ok (.iaload, 1) := ze_46 zcode_225
theorem dl_226 : decode code 226 = .ok (.invokevirtual 13, 3) := ze_182 zcode_226 rfl
theorem dl_229 : decode code 229 = .ok (.pop, 1) := ze_87 zcode_229
theorem dl_230 : decode code 230 = .ok (.aload_n 2, 1) := ze_44 zcode_230
theorem dl_231 : decode code 231 = .ok (.aload_n 0, 1) := ze_42 zcode_231
theorem dl_232 : decode code 232 = .ok (.iload_n 3, 1) := ze_29 zcode_232
theorem dl_233 : decode code 233 = .ok (.iconst 1, 1) := ze_4 zcode_233
theorem dl_234 : decode code 234 = .ok (.iadd, 1) := ze_96 zcode_234
theorem dl_235 : decode code 235 = .ok (.iaload, 1) := ze_46 zcode_235
theorem dl_236 : decode code 236 = .ok (.aload_n 0, 1) := ze_42 zcode_236
theorem dl_237 : decode code 237 = .ok (.iload_n 3, 1) := ze_29 zcode_237
theorem dl_238 : decode code 238 = .ok (.iconst 2, 1) := ze_5 zcode_238
theorem dl_239 : decode code 239 = .ok (.iadd, 1) := ze_96 zcode_239
theorem dl_240 : decode code 240 = .ok (.iaload, 1) := ze_46 zcode_240
theorem dl_241 : decode code 241 = .ok (.aload_n 0, 1) := ze_42 zcode_241
theorem dl_242 : decode code 242 = .ok (.iload_n 3, 1) := ze_29 zcode_242
theorem dl_243 : decode code 243 = .ok (.iconst 3, 1) := ze_6 zcode_243
theorem dl_244 : decode code 244 = .ok (.iadd, 1) := ze_96 zcode_244
theorem dl_245 : decode code 245 = .ok (.iaload, 1) := ze_46 zcode_245
theorem dl_246 : decode code 246 = .ok (.aload_n 0, 1) := ze_42 zcode_246
theorem dl_247 : decode code 247 = .ok (.iload_n 3, 1) := ze_29 zcode_247
theorem dl_248 : decode code 248 = .ok (.iconst 4, 1) := ze_7 zcode_248
theorem dl_249 : decode code 249 = .ok (.iadd, 1) := ze_96 zcode_249
theorem dl_250 : decode code 250 = .ok (.iaload, 1) := ze_46 zcode_250
theorem dl_251 : decode code 251 = .ok (.aload_n 0, 1) := ze_42 zcode_251
theorem dl_252 : decode code 252 = .ok (.iload_n 3, 1) := ze_29 zcode_252
theorem dl_253 : decode code 253 = .ok (.iconst 5, 1) := ze_8 zcode_253
theorem dl_254 : decode code 254 = .ok (.iadd, 1) := ze_96 zcode_254
theorem dl_255 : decode code 255 = .ok (.iaload, 1) := ze_46 zcode_255
theorem dl_256 : decode code 256 = .ok (.invokevirtual 17, 3) := ze_182 zcode_256 rfl
theorem dl_259 : decode code 259 = .ok (.pop, 1) := ze_87 zcode_259
theorem dl_260 : decode code 260 = .ok (.goto 1052, 3) := ze_167 zcode_260 (u := 1052) rfl (Nat.le_of_ble_eq_true rfl)
theorem dl_263 : decode code 263 = .ok (.aload_n 1, 1) := ze_43 zcode_263
theorem dl_264 : decode code 264 = .ok (.aload_n 0, 1) := ze_42 zcode_264
theorem dl_265 : decode code 265 = .ok (.iload_n 3, 1) := ze_29 zcode_265
theorem dl_266 : decode code 266 = .ok (.iconst 1, 1) := ze_4 zcode_266
theorem dl_267 : decode code 267 = .ok (.iadd, 1) := ze_96 zcode_267
theorem dl_268 : decode code 268 = .ok (.iaload, 1) := ze_46 zcode_268
theorem dl_269 : decode code 269 = .ok (.invokevirtual 18, 3) := ze_182 zcode_269 rfl
theorem dl_272 : decode code 272 = .ok (.pop, 1) := ze_87 zcode_272
theorem dl_273 : decode code 273 = .ok (.aload_n 2, 1) := ze_44 zcode_273
theorem dl_274 : decode code 274 = .ok (.aload_n 0, 1) := ze_42 zcode_274
theorem dl_275 : decode code 275 = .ok (.iload_n 3, 1) := ze_29 zcode_275
theorem dl_276 : decode code 276 = .ok (.iconst 1, 1) := ze_4 zcode_276
theorem dl_277 : decode code 277 = .ok (.iadd, 1) := ze_96 zcode_277
theorem dl_278 : decode code 278 = .ok (.iaload, 1) := ze_46 zcode_278
theorem dl_279 : decode code 279 = .ok (.invokevirtual 22, 3) := ze_182 zcode_279 rfl
theorem dl_282 : decode code 282 = .ok (.pop, 1) := ze_87 zcode_282
theorem dl_283 : decode code 283 = .ok (.goto 1029, 3) := ze_167 zcode_283 (u := 1029) rfl (Nat.le_of_ble_eq_true rfl)
theorem dl_286 : decode code 286 = .ok (.aload_n 1, 1) := ze_43 zcode_286
theorem dl_287 : decode code 287 = .ok (.invokevirtual 23, 3) := ze_182 zcode_287 rfl
theorem dl_290 : decode code 290 = .ok (.pop, 1) := ze_87 zcode_290
theorem dl_291 : decode code 291 = .ok (.aload_n 2, 1) := ze_44 zcode_291
theorem dl_292 : decode code 292 = .ok (.invokevirtual 27, 3) := ze_182 zcode_292 rfl
theorem dl_295 : decode code 295 = .ok (.pop, 1) := ze_87 zcode_295
theorem dl_296 : decode code 296 = .ok (.goto 1016, 3) := ze_167 zcode_296 (u := 1016) rfl (Nat.le_of_ble_eq_true rfl)
theorem dl_299 : decode code 299 = .ok (.aload_n 1, 1) := ze_43 zcode_299
theorem dl_300 : decode code 300 = .ok (.aload_n 0, 1) := ze_42 zcode_300
theorem dl_301 : decode code 301 = .ok (.iload_n 3, 1) := ze_29 zcode_301
theorem dl_302 : decode code 302 = .ok (.iconst 1, 1) := ze_4 zcode_302
theorem dl_303 : decode code 303 = .ok (.iadd, 1) := ze_96 zcode_303
theorem dl_304 : decode code 304 = .ok (.iaload, 1) := ze_46 zcode_304
theorem dl_305 : decode code 305 = .ok (.invokevirtual 28, 3) := ze_182 zcode_305 rfl
theorem dl_308 : decode code 308 = .ok (.pop, 1) := ze_87 zcode_308
theorem dl_309 : decode code 309 = .ok (.aload_n 2, 1) := ze_44 zcode_309
theorem dl_310 : decode code 310 = .ok (.aload_n 0, 1) := ze_42 zcode_310
theorem dl_311 : decode code 311 = .ok (.iload_n 3, 1) := ze_29 zcode_311
theorem dl_312 : decode code 312 = .ok (.iconst 1, 1) := ze_4 zcode_312
theorem dl_313 : decode code 313 = .ok (.iadd, 1) := ze_96 zcode_313
theorem dl_314 : decode code 314 = .ok (.iaload, 1) := ze_46 zcode_314
theorem dl_315 : decode code 315 = .ok (.invokevirtual 32, 3) := ze_182 zcode_315 rfl
theorem dl_318 : decode code 318 = .ok (.pop, 1) := ze_87 zcode_318
theorem dl_319 : decode code 319 = .ok (.goto 993, 3) := ze_167 zcode_319 (u := 993) rfl (Nat.le_of_ble_eq_true rfl)
theorem dl_322 : decode code 322 = .ok (.aload_n 1, 1) := ze_43 zcode_322
theorem dl_323 : decode code 323 = .ok (.aload_n 0, 1) := ze_42 zcode_323
theorem dl_324 : decode code 324 = .ok (.iload_n 3, 1) := ze_29 zcode_324
theorem dl_325 : decode code 325 = .ok (.iconst 1, 1) := ze_4 zcode_325
theorem dl_326 : decode code 326 = .ok (.iadd, 1) := ze_96 zcode_326
theorem dl_327 : decode code 327 = .ok (.iaload, 1) := ze_46 zcode_327
theorem dl_328 : decode code 328 = .ok (.invokevirtual 33, 3) := ze_182 zcode_328 rfl
theorem dl_331 : decode code 331 = .ok (.pop, 1) := ze_87 zcode_331
theorem dl_332 : decode code 332 = .ok (.aload_n 2, 1) := ze_44 zcode_332
theorem dl_333 : decode code 333 = .ok (.aload_n 0, 1) := ze_42 zcode_333
theorem dl_334 : decode code 334 = .ok (.iload_n 3, 1) := ze_29 zcode_334
theorem dl_335 : decode code 335 = .ok (.iconst 1, 1) := ze_4 zcode_335
theorem dl_336 : decode code 336 = .ok (.iadd, 1) := ze_96 zcode_336
theorem dl_337 : decode code 337 = .ok (.iaload, 1) := ze_46 zcode_337
theorem dl_338 : decode code 338 = .ok (.invokevirtual 36, 3) := ze_182 zcode_338 rfl
theorem dl_341 : decode code 341 = .ok (.pop, 1) := ze_87 zcode_341
theorem dl_342 : decode code 342 = .ok (.goto 970, 3) := ze_167 zcode_342 (u := 970) rfl (Nat.le_of_ble_eq_true rfl)
theorem dl_345 : decode code 345 = .ok (.aload_n 1, 1) := ze_43 zcode_345
theorem dl_346 : decode code 346 = .ok (.aload_n 0, 1) := ze_42 zcode_346
theorem dl_347 : decode code 347 = .ok (.iload_n 3, 1) := ze_29 zcode_347
theorem dl_348 : decode code 348 = .ok (.iconst 1, 1) := ze_4 zcode_348
theorem dl_349 : decode code 349 = .ok (.iadd, 1) := ze_96 zcode_349
theorem dl_350 : decode code 350 = .ok (.iaload, 1) := ze_46 zcode_350
theorem dl_351 : decode code 351 = .ok (.aload_n 0, 1) := ze_42 zcode_351
theorem dl_352 : decode code 352 = .ok (.iload_n 3, 1) := ze_29 zcode_352
theorem dl_353 : decode code 353 = .ok (.iconst 2, 1) := ze_5 zcode_353
theorem dl_354 : decode code 354 = .ok (.iadd, 1) := ze_96 zcode_354
theorem dl_355 : decode code 355 = .ok (.iaload, 1) := ze_46 zcode_355
theorem dl_356 : decode code 356 = .ok (.aload_n 0, 1) := ze_42 zcode_356
theorem dl_357 : decode code 357 = .ok (.iload_n 3, 1) := ze_29 zcode_357
theorem dl_358 : decode code 358 = .ok (.iconst 3, 1) := ze_6 zcode_358
theorem dl_359 : decode code 359 = .ok (.iadd, 1) := ze_96 zcode_359
theorem dl_360 : decode code 360 = .ok (.iaload, 1) := ze_46 zcode_360
theorem dl_361 : decode code 361 = .ok (.invokevirtual 37, 3) := ze_182 zcode_361 rfl
theorem dl_364 : decode code 364 = .ok (.aload_n 2, 1) := ze_44 zcode_364
theorem dl_365 : decode code 365 = .ok (.aload_n 0, 1) := ze_42 zcode_365
theorem dl_366 : decode code 366 = .ok (.iload_n 3, 1) := ze_29 zcode_366
theorem dl_367 : decode code 367 = .ok (.iconst 1, 1) := ze_4 zcode_367
theorem dl_368 : decode code 368 = .ok (.iadd, 1) := ze_96 zcode_368
theorem dl_369 : decode code 369 = .ok (.iaload, 1) := ze_46 zcode_369
theorem dl_370 : decode code 370 = .ok (.aload_n 0, 1) := ze_42 zcode_370
theorem dl_371 : decode code 371 = .ok (.iload_n 3, 1) := ze_29 zcode_371
theorem dl_372 : decode code 372 = .ok (.iconst 2, 1) := ze_5 zcode_372
theorem dl_373 : decode code 373 = .ok (.iadd, 1) := ze_96 zcode_373
theorem dl_374 : decode code 374 = .ok (.iaload, 1) := ze_46 zcode_374
theorem dl_375 : decode code 375 = .ok (.aload_n 0, 1) := ze_42 zcode_375
theorem dl_376 : decode code 376 = .ok (.iload_n 3, 1) := ze_29 zcode_376
theorem dl_377 : decode code 377 = .ok (.iconst 3, 1) := ze_6 zcode_377
theorem dl_378 : decode code 378 = .ok (.iadd, 1) := ze_96 zcode_378
theorem dl_379 : decode code 379 = .ok (.iaload, 1) := ze_46 zcode_379
theorem dl_380 : decode code 380 = .ok (.invokevirtual 41, 3) := ze_182 zcode_380 rfl
theorem dl_383 : decode code 383 = .ok (.if_icmp .eq 929, 3) := ze_159 zcode_383 (u := 929) rfl (Nat.le_of_ble_eq_true rfl)
theorem dl_386 : decode code 386 = .ok (.iconst 0, 1) := ze_3 zcode_386
theorem dl_387 : decode code 387 = .ok (.ireturn, 1) := ze_172 zcode_387
theorem dl_388 : decode code 388 = .ok (.aload_n 1, 1) := ze_43 zcode_388
theorem dl_389 : decode code 389 = .ok (.aload_n 0, 1) := ze_42 zcode_389
theorem dl_390 : decode code 390 = .ok (.iload_n 3, 1) := ze_29 zcode_390
theorem dl_391 : decode code 391 = .ok (.iconst 1, 1) := ze_4 zcode_391
theorem dl_392 : decode code 392 = .ok (.iadd, 1) := ze_96 zcode_392
theorem dl_393 : decode code 393 = .ok (.iaload, 1) := ze_46 zcode_393
theorem dl_394 : decode code 394 = .ok (.aload_n 0, 1) := ze_42 zcode_394
theorem dl_395 : decode code 395 = .ok (.iload_n 3, 1) := ze_29 zcode_395
theorem dl_396 : decode code 396 = .ok (.iconst 2, 1) := ze_5 zcode_396
theorem dl_397 : decode code 397 = .ok (.iadd, 1) := ze_96 zcode_397
theorem dl_398 : decode code 398 = .ok (.iaload, 1) := ze_46 zcode_398
theorem dl_399 : decode code 399 = .ok (.invokevirtual 42, 3) := ze_182 zcode_399 rfl
theorem dl_402 : decode code 402 = .ok (.pop, 1) := ze_87 zcode_402
theorem dl_403 : decode code 403 = .ok (.aload_n 2, 1) := ze_44 zcode_403
theorem dl_404 : decode code 404 = .ok (.aload_n 0, 1) := ze_42 zcode_404
theorem dl_405 : decode code 405 = .ok (.iload_n 3, 1) := ze_29 zcode_405
theorem dl_406 : decode code 406 = .ok (.iconst 1, 1) := ze_4 zcode_406
theorem dl_407 : decode code 407 = .ok (.iadd, 1) := ze_96 zcode_407
theorem dl_408 : decode code 408 = .ok (.iaload, 1) := ze_46 zcode_408
theorem dl_409 : decode code 409 = .ok (.aload_n 0, 1) := ze_42 zcode_409
theorem dl_410 : decode code 410 = .ok (.iload_n 3, 1) := ze_29 zcode_410
theorem dl_411 : decode code 411 = .ok (.iconst 2, 1) := ze_5 zcode_411
theorem dl_412 : decode code 412 = .ok (.iadd, 1) := ze_96 zcode_412
theorem dl_413 : decode code 413 = .ok (.iaload, 1) := ze_46 zcode_413
theorem dl_414 : decode code 414 = .ok (.invokevirtual 46, 3) := ze_182 zcode_414 rfl
theorem dl_417 : decode code 417 = .ok (.pop, 1) := ze_87 zcode_417
theorem dl_418 : decode code 418 = .ok (.goto 894, 3) := ze_167 zcode_418 (u := 894) rfl (Nat.le_of_ble_eq_true rfl)
theorem dl_421 : decode code 421 = .ok (.aload_n 1, 1) := ze_43 zcode_421
theorem dl_422 : decode code 422 = .ok (.aload_n 0, 1) := ze_42 zcode_422
theorem dl_423 : decode code 423 = .ok (.iload_n 3, 1) := ze_29 zcode_423
theorem dl_424 : decode code 424 = .ok (.iconst 1, 1) := ze_4 zcode_424
theorem dl_425 : decode code 425 = .ok (.iadd, 1) := ze_96 zcode_425
theorem dl_426 : decode code 426 = .ok (.iaload, 1) := ze_46 zcode_426
theorem dl_427 : decode code 427 = .ok (.invokevirtual 47, 3) := ze_182 zcode_427 rfl
theorem dl_430 : decode code 430 = .ok (.pop, 1) := ze_87 zcode_430
theorem dl_431 : decode code 431 = .ok (.aload_n 2, 1) := ze_44 zcode_431
theorem dl_432 : decode code 432 = .ok (.aload_n 0, 1) := ze_42 zcode_432
theorem dl_433 : decode code 433 = .ok (.iload_n 3, 1) := ze_29 zcode_433
theorem dl_434 : decode code 434 = .ok (.iconst 1, 1) := ze_4 zcode_434
theorem dl_435 : decode code 435 = .ok (.iadd, 1) := ze_96 zcode_435
theorem dl_436 : decode code 436 = .ok (.iaload, 1) := ze_46 zcode_436
theorem dl_437 : decode code 437 = .ok (.invokevirtual 50, 3) := ze_182 zcode_437 rfl
theorem dl_440 : decode code 440 = .ok (.pop, 1) := ze_87 zcode_440
theorem dl_441 : decode code 441 = .ok (.goto 871, 3) := ze_167 zcode_441 (u := 871) rfl (Nat.le_of_ble_eq_true rfl)
theorem dl_444 : decode code 444 = .ok (.aload_n 1, 1) := ze_43 zcode_444
theorem dl_445 : decode code 445 = .ok (.aload_n 0, 1) := ze_42 zcode_445
theorem dl_446 : decode code 446 = .ok (.iload_n 3, 1) := ze_29 zcode_446
theorem dl_447 : decode code 447 = .ok (.iconst 1, 1) := ze_4 zcode_447
theorem dl_448 : decode code 448 = .ok (.iadd, 1) := ze_96 zcode_448
theorem dl_449 : decode code 449 = .ok (.iaload, 1) := ze_46 zcode_449
theorem dl_450 : decode code 450 = .ok (.aload_n 0, 1) := ze_42 zcode_450
theorem dl_451 : decode code 451 = .ok (.iload_n 3, 1) := ze_29 zcode_451
theorem dl_452 : decode code 452 = .ok (.iconst 2, 1) := ze_5 zcode_452
theorem dl_453 : decode code 453 = .ok (.iadd, 1) := ze_96 zcode_453
theorem dl_454 : decode code 454 = .ok (.iaload, 1) := ze_46 zcode_454
theorem dl_455 : decode code 455 = .ok (.invokevirtual 51, 3) := ze_182 zcode_455 rfl
theorem dl_458 : decode code 458 = .ok (.pop, 1) := ze_87 zcode_458
theorem dl_459 : decode code 459 = .ok (.aload_n 2, 1) := ze_44 zcode_459
theorem dl_460 : decode code 460 = .ok (.aload_n 0, 1) := ze_42 zcode_460
theorem dl_461 : decode code 461 = .ok (.iload_n 3, 1) := ze_29 zcode_461
theorem dl_462 : decode code 462 = .ok (.iconst 1, 1) := ze_4 zcode_462
theorem dl_463 : decode code 463 = .ok (.iadd, 1) := ze_96 zcode_463
theorem dl_464 : decode code 464 = .ok (.iaload, 1) := ze_46 zcode_464
theorem dl_465 : decode code 465 = .ok (.aload_n 0, 1) := ze_42 zcode_465
theorem dl_466 : decode code 466 = .ok (.iload_n 3, 1) := ze_29 zcode_466
theorem dl_467 : decode code 467 = .ok (.iconst 2, 1) := ze_5 zcode_467
theorem dl_468 : decode code 468 = .ok (.iadd, 1) := ze_96 zcode_468
theorem dl_469 : decode code 469 = .ok (.iaload, 1) := ze_46 zcode_469
theorem dl_470 : decode code 470 = .ok (.invokevirtual 54, 3) := ze_182 zcode_470 rfl
theorem dl_473 : decode code 473 = .ok (.pop, 1) := ze_87 zcode_473
theorem dl_474 : decode code 474 = .ok (.goto 838, 3) := ze_167 zcode_474 (u := 838) rfl (Nat.le_of_ble_eq_true rfl)
theorem dl_477 : decode code 477 = .ok (.aload_n 1, 1) := ze_43 zcode_477
theorem dl_478 : decode code 478 = .ok (.aload_n 0, 1) := ze_42 zcode_478
theorem dl_479 : decode code 479 = .ok (.iload_n 3, 1) := ze_29 zcode_479
theorem dl_480 : decode code 480 = .ok (.iconst 1, 1) := ze_4 zcode_480
theorem dl_481 : decode code 481 = .ok (.iadd, 1) := ze_96 zcode_481
theorem dl_482 : decode code 482 = .ok (.iaload, 1) := ze_46 zcode_482
theorem dl_483 : decode code 483 = .ok (.aload_n 0, 1) := ze_42 zcode_483
theorem dl_484 : decode code 484 = .ok (.iload_n 3, 1) := ze_29 zcode_484
theorem dl_485 : decode code 485 = .ok (.iconst 2, 1) := ze_5 zcode_485
theorem dl_486 : decode code 486 = .ok (.iadd, 1) := ze_96 zcode_486
theorem dl_487 : decode code 487 = .ok (.iaload, 1) := ze_46 zcode_487
theorem dl_488 : decode code 488 = .ok (.invokevirtual 55, 3) := ze_182 zcode_488 rfl
theorem dl_491 : decode code 491 = .ok (.pop, 1) := ze_87 zcode_491
theorem dl_492 : decode code 492 = .ok (.aload_n 2, 1) := ze_44 zcode_492
theorem dl_493 : decode code 493 = .ok (.aload_n 0, 1) := ze_42 zcode_493
theorem dl_494 : decode code 494 = .ok (.iload_n 3, 1) := ze_29 zcode_494
theorem dl_495 : decode code 495 = .ok (.iconst 1, 1) := ze_4 zcode_495
theorem dl_496 : decode code 496 = .ok (.iadd, 1) := ze_96 zcode_496
theorem dl_497 : decode code 497 = .ok (.iaload, 1) := ze_46 zcode_497
theorem dl_498 : decode code 498 = .ok (.aload_n 0, 1) := ze_42 zcode_498
theorem dl_499 : decode code 499 = .ok (.iload_n 3, 1) := ze_29 zcode_499
theorem dl_500 : decode code 500 = .ok (.iconst 2, 1) := ze_5 zcode_500
theorem dl_501 : decode code 501 = .ok (.iadd, 1) := ze_96 zcode_501
theorem dl_502 : decode code 502 = .ok (.iaload, 1) := ze_46 zcode_502
theorem dl_503 : decode code 503 = .ok (.invokevirtual 58, 3) := ze_182 zcode_503 rfl
theorem dl_506 : decode code 506 = .ok (.pop, 1) := ze_87 zcode_506
theorem dl_507 : decode code 507 = .ok (.goto 805, 3) := ze_167 zcode_507 (u := 805) rfl (Nat.le_of_ble_eq_true rfl)
theorem dl_510 : decode code 510 = .ok (.aload_n 1, 1) := ze_43 zcode_510
theorem dl_511 : decode code 511 = .ok (.aload_n 0, 1) := ze_42 zcode_511
theorem dl_512 : decode code 512 = .ok (.iload_n 3, 1) := ze_29 zcode_512
theorem dl_513 : decode code 513 = .ok (.iconst 1, 1) := ze_4 zcode_513
theorem dl_514 : decode code 514 = .ok (.iadd, 1) := ze_96 zcode_514
theorem dl_515 : decode code 515 = .ok (.iaload, 1) := ze_46 zcode_515
theorem dl_516 : decode code 516 = .ok (.aload_n 0, 1) := ze_42 zcode_516
theorem dl_517 : decode code 517 = .ok (.iload_n 3, 1) := ze_29 zcode_517
theorem dl_518 : decode code 518 = .ok (.iconst 2, 1) := ze_5 zcode_518
theorem dl_519 : decode code 519 = .ok (.iadd, 1) := ze_96 zcode_519
theorem dl_520 : decode code 520 = .ok (.iaload, 1) := ze_46 zcode_520
theorem dl_521 : decode code 521 = .ok (.invokevirtual 59, 3) := ze_182 zcode_521 rfl
theorem dl_524 : decode code 524 = .ok (.pop, 1) := ze_87 zcode_524
theorem dl_525 : decode code 525 = .ok (.aload_n 2, 1) := ze_44 zcode_525
theorem dl_526 : decode code 526 = .ok (.aload_n 0, 1) := ze_42 zcode_526
theorem dl_527 : decode code 527 = .ok (.iload_n 3, 1) := ze_29 zcode_527
theorem dl_528 : decode code 528 = .ok (.iconst 1, 1) := ze_4 zcode_528
theorem dl_529 : decode code 529 = .ok (.iadd, 1) := ze_96 zcode_529
theorem dl_530 : decode code 530 = .ok (.iaload, 1) := ze_46 zcode_530
theorem dl_531 : decode code 531 = .ok (.aload_n 0, 1) := ze_42 zcode_531
theorem dl_532 : decode code 532 = .ok (.iload_n 3, 1) := ze_29 zcode_532
theorem dl_533 : decode code 533 = .ok (.iconst 2, 1) := ze_5 zcode_533
theorem dl_534 : decode code 534 = .ok (.iadd, 1) := ze_96 zcode_534
theorem dl_535 : decode code 535 = .ok (.iaload, 1) := ze_46 zcode_535
theorem dl_536 : decode code 536 = .ok (.invokevirtual 62, 3) := ze_182 zcode_536 rfl
theorem dl_539 : decode code 539 = .ok (.pop, 1) := ze_87 zcode_539
theorem dl_540 : decode code 540 = .ok (.goto 772, 3) := ze_167 zcode_540 (u := 772) rfl (Nat.le_of_ble_eq_true rfl)
theorem dl_543 : decode code 543 = .ok (.aload_n 1, 1) := ze_43 zcode_543
theorem dl_544 : decode code 544 = .ok (.aload_n 0, 1) := ze_42 zcode_544
theorem dl_545 : decode code 545 = .ok (.iload_n 3, 1) := ze_29 zcode_545
theorem dl_546 : decode code 546 = .ok (.iconst 1, 1) := ze_4 zcode_546
theorem dl_547 : decode code 547 = .ok (.iadd, 1) := ze_96 zcode_547
theorem dl_548 : decode code 548 = .ok (.iaload, 1) := ze_46 zcode_548
theorem dl_549 : decode code 549 = .ok (.aload_n 0, 1) := ze_42 zcode_549
theorem dl_550 : decode code 550 = .ok (.iload_n 3, 1) := ze_29 zcode_550
theorem dl_551 : decode code 551 = .ok (.iconst 2, 1) := ze_5 zcode_551
theorem dl_552 : decode code 552 = .ok (.iadd, 1) := ze_96 zcode_552
theorem dl_553 : decode code 553 = .ok (.iaload, 1) := ze_46 zcode_553
theorem dl_554 : decode code 554 = .ok (.aload_n 0, 1) := ze_42 zcode_554
theorem dl_555 : decode code 555 = .ok (.iload_n 3, 1) := ze_29 zcode_555
theorem dl_556 : decode code 556 = .ok (.iconst 3, 1) := ze_6 zcode_556
theorem dl_557 : decode code 557 = .ok (.iadd, 1) := ze_96 zcode_557
theorem dl_558 : decode code 558 = .ok (.iaload, 1) := ze_46 zcode_558
theorem dl_559 : decode code 559 = .ok (.ifCond .eq 7, 3) := ze_153 zcode_559 (u := 7) rfl (Nat.le_of_ble_eq_true rfl)
theorem dl_562 : decode code 562 = .ok (.iconst 1, 1) := ze_4 zcode_562
theorem dl_563 : decode code 563 = .ok (.goto 4, 3) := ze_167 zcode_563 (u := 4) rfl (Nat.le_of_ble_eq_true rfl)
theorem dl_566 : decode code 566 = .ok (.iconst 0, 1) := ze_3 zcode_566
theorem dl_567 : decode code 567 = .ok (.invokevirtual 63, 3) := ze_182 zcode_567 rfl
theorem dl_570 : decode code 570 = .ok (.pop, 1) := ze_87 zcode_570
theorem dl_571 : decode code 571 = .ok (.aload_n 2, 1) := ze_44 zcode_571
theorem dl_572 : decode code 572 = .ok (.aload_n 0, 1) := ze_42 zcode_572
theorem dl_573 : decode code 573 = .ok (.iload_n 3, 1) := ze_29 zcode_573
theorem dl_574 : decode code 574 = .ok (.iconst 1, 1) := ze_4 zcode_574
theorem dl_575 : decode code 575 = .ok (.iadd, 1) := ze_96 zcode_575
theorem dl_576 : decode code 576 = .ok (.iaload, 1) := ze_46 zcode_576
theorem dl_577 : decode code 577 = .ok (.aload_n 0, 1) := ze_42 zcode_577
theorem dl_578 : decode code 578 = .ok (.iload_n 3, 1) := ze_29 zcode_578
theorem dl_579 : decode code 579 = .ok (.iconst 2, 1) := ze_5 zcode_579
theorem dl_580 : decode code 580 = .ok (.iadd, 1) := ze_96 zcode_580
theorem dl_581 : decode code 581 = .ok (.iaload, 1) := ze_46 zcode_581
theorem dl_582 : decode code 582 = .ok (.aload_n 0, 1) := ze_42 zcode_582
theorem dl_583 : decode code 583 = .ok (.iload_n 3, 1) := ze_29 zcode_583
theorem dl_584 : decode code 584 = .ok (.iconst 3, 1) := ze_6 zcode_584
theorem dl_585 : decode code 585 = .ok (.iadd, 1) := ze_96 zcode_585
theorem dl_586 : decode code 586 = .ok (.iaload, 1) := ze_46 zcode_586
theorem dl_587 : decode code 587 = .ok (.ifCond .eq 7, 3) := ze_153 zcode_587 (u := 7) rfl (Nat.le_of_ble_eq_true rfl)
theorem dl_590 : decode code 590 = .ok (.iconst 1, 1) := ze_4 zcode_590
theorem dl_591 : decode code 591 = .ok (.goto 4, 3) := ze_167 zcode_591 (u := 4) rfl (Nat.le_of_ble_eq_true rfl)
theorem dl_594 : decode code 594 = .ok (.iconst 0, 1) := ze_3 zcode_594
theorem dl_595 : decode code 595 = .ok (.invokevirtual 67, 3) := ze_182 zcode_595 rfl
theorem dl_598 : decode code 598 = .ok (.pop, 1) := ze_87 zcode_598
theorem dl_599 : decode code 599 = .ok (.goto 713, 3) := ze_167 zcode_599 (u := 713) rfl (Nat.le_of_ble_eq_true rfl)
theorem dl_602 : decode code 602 = .ok (.aload_n 1, 1) := ze_43 zcode_602
theorem dl_603 : decode code 603 = .ok (.aload_n 0, 1) := ze_42 zcode_603
theorem dl_604 : decode code 604 = .ok (.iload_n 3, 1) := ze_29 zcode_604
theorem dl_605 : decode code 605 = .ok (.iconst 1, 1) := ze_4 zcode_605
theorem dl_606 : decode code 606 = .ok (.iadd, 1) := ze_96 zcode_606
theorem dl_607 : decode code 607 = .ok (.iaload, 1) := ze_46 zcode_607
theorem dl_608 : decode code 608 = .ok (.invokevirtual 68, 3) := ze_182 zcode_608 rfl
theorem dl_611 : decode code 611 = .ok (.pop, 1) := ze_87 zcode_611
theorem dl_612 : decode code 612 = .ok (.aload_n 2, 1) := ze_44 zcode_612
theorem dl_613 : decode code 613 = .ok (.aload_n 0, 1) := ze_42 zcode_613
theorem dl_614 : decode code 614 = .ok (.iload_n 3, 1) := ze_29 zcode_614
theorem dl_615 : decode code 615 = .ok (.iconst 1, 1) := ze_4 zcode_615
theorem dl_616 : decode code 616 = .ok (.iadd, 1) := ze_96 zcode_616
theorem dl_617 : decode code 617 = .ok (.iaload, 1) := ze_46 zcode_617
theorem dl_618 : decode code 618 = .ok (.invokevirtual 71, 3) := ze_182 zcode_618 rfl
theorem dl_621 : decode code 621 = .ok (.pop, 1) := ze_87 zcode_621
theorem dl_622 : decode code 622 = .ok (.goto 690, 3) := ze_167 zcode_622 (u := 690) rfl (Nat.le_of_ble_eq_true rfl)
theorem dl_625 : decode code 625 = .ok (.aload_n 1, 1) := ze_43 zcode_625
theorem dl_626 : decode code 626 = .ok (.aload_n 0, 1) := ze_42 zcode_626
theorem dl_627 : decode code 627 = .ok (.iload_n 3, 1) := ze_29 zcode_627
theorem dl_628 : decode code 628 = .ok (.iconst 1, 1) := ze_4 zcode_628
theorem dl_629 : decode code 629 = .ok (.iadd, 1) := ze_96 zcode_629
theorem dl_630 : decode code 630 = .ok (.iaload, 1) := ze_46 zcode_630
theorem dl_631 : decode code 631 = .ok (.aload_n 0, 1) := ze_42 zcode_631
theorem dl_632 : decode code 632 = .ok (.iload_n 3, 1) := ze_29 zcode_632
theorem dl_633 : decode code 633 = .ok (.iconst 2, 1) := ze_5 zcode_633
theorem dl_634 : decode code 634 = .ok (.iadd, 1) := ze_96 zcode_634
theorem dl_635 : decode code 635 = .ok (.iaload, 1) := ze_46 zcode_635
theorem dl_636 : decode code 636 = .ok (.invokevirtual 72, 3) := ze_182 zcode_636 rfl
theorem dl_639 : decode code 639 = .ok (.pop, 1) := ze_87 zcode_639
theorem dl_640 : decode code 640 = .ok (.aload_n 2, 1) := ze_44 zcode_640
theorem dl_641 : decode code 641 = .ok (.aload_n 0, 1) := ze_42 zcode_641
theorem dl_642 : decode code 642 = .ok (.iload_n 3, 1) := ze_29 zcode_642
theorem dl_643 : decode code 643 = .ok (.iconst 1, 1) := ze_4 zcode_643
theorem dl_644 : decode code 644 = .ok (.iadd, 1) := ze_96 zcode_644
theorem dl_645 : decode code 645 = .ok (.iaload, 1) := ze_46 zcode_645
theorem dl_646 : decode code 646 = .ok (.aload_n 0, 1) := ze_42 zcode_646
theorem dl_647 : decode code 647 = .ok (.iload_n 3, 1) := ze_29 zcode_647
theorem dl_648 : decode code 648 = .ok (.iconst 2, 1) := ze_5 zcode_648
theorem dl_649 : decode code 649 = .ok (.iadd, 1) := ze_96 zcode_649
theorem dl_650 : decode code 650 = .ok (.iaload, 1) := ze_46 zcode_650
theorem dl_651 : decode code 651 = .ok (.invokevirtual 75, 3) := ze_182 zcode_651 rfl
theorem dl_654 : decode code 654 = .ok (.pop, 1) := ze_87 zcode_654
theorem dl_655 : decode code 655 = .ok (.goto 657, 3) := ze_167 zcode_655 (u := 657) rfl (Nat.le_of_ble_eq_true rfl)
theorem dl_658 : decode code 658 = .ok (.aload_n 1, 1) := ze_43 zcode_658
theorem dl_659 : decode code 659 = .ok (.aload_n 0, 1) := ze_42 zcode_659
theorem dl_660 : decode code 660 = .ok (.iload_n 3, 1) := ze_29 zcode_660
theorem dl_661 : decode code 661 = .ok (.iconst 1, 1) := ze_4 zcode_661
theorem dl_662 : decode code 662 = .ok (.iadd, 1) := ze_96 zcode_662
theorem dl_663 : decode code 663 = .ok (.iaload, 1) := ze_46 zcode_663
theorem dl_664 : decode code 664 = .ok (.aload_n 0, 1) := ze_42 zcode_664
theorem dl_665 : decode code 665 = .ok (.iload_n 3, 1) := ze_29 zcode_665
theorem dl_666 : decode code 666 = .ok (.iconst 2, 1) := ze_5 zcode_666
theorem dl_667 : decode code 667 = .ok (.iadd, 1) := ze_96 zcode_667
theorem dl_668 : decode code 668 = .ok (.iaload, 1) := ze_46 zcode_668
theorem dl_669 : decode code 669 = .ok (.ifCond .eq 7, 3) := ze_153 zcode_669 (u := 7) rfl (Nat.le_of_ble_eq_true rfl)
theorem dl_672 : decode code 672 = .ok (.iconst 1, 1) := ze_4 zcode_672
theorem dl_673 : decode code 673 = .ok (.goto 4, 3) := ze_167 zcode_673 (u := 4) rfl (Nat.le_of_ble_eq_true rfl)
theorem dl_676 : decode code 676 = .ok (.iconst 0, 1) := ze_3 zcode_676
theorem dl_677 : decode code 677 = .ok (.invokevirtual 76, 3) := ze_182 zcode_677 rfl
theorem dl_680 : decode code 680 = .ok (.pop, 1) := ze_87 zcode_680
theorem dl_681 : decode code 681 = .ok (.aload_n 2, 1) := ze_44 zcode_681
theorem dl_682 : decode code 682 = .ok (.aload_n 0, 1) := ze_42 zcode_682
theorem dl_683 : decode code 683 = .ok (.iload_n 3, 1) := ze_29 zcode_683
theorem dl_684 : decode code 684 = .ok (.iconst 1, 1) := ze_4 zcode_684
theorem dl_685 : decode code 685 = .ok (.iadd, 1) := ze_96 zcode_685
theorem dl_686 : decode code 686 = .ok (.iaload, 1) := ze_46 zcode_686
theorem dl_687 : decode code 687 = .ok (.aload_n 0, 1) := ze_42 zcode_687
theorem dl_688 : decode code 688 = .ok (.iload_n 3, 1) := ze_29 zcode_688
theorem dl_689 : decode code 689 = .ok (.iconst 2, 1) := ze_5 zcode_689
theorem dl_690 : decode code 690 = .ok (.iadd, 1) := ze_96 zcode_690
theorem dl_691 : decode code 691 = .ok (.iaload, 1) := ze_46 zcode_691
theorem dl_692 : decode code 692 = .ok (.ifCond .eq 7, 3) := ze_153 zcode_692 (u := 7) rfl (Nat.le_of_ble_eq_true rfl)
theorem dl_695 : decode code 695 = .ok (.iconst 1, 1) := ze_4 zcode_695
theorem dl_696 : decode code 696 = .ok (.goto 4, 3) := ze_167 zcode_696 (u := 4) rfl (Nat.le_of_ble_eq_true rfl)
theorem dl_699 : decode code 699 = .ok (.iconst 0, 1) := ze_3 zcode_699
theorem dl_700 : decode code 700 = .ok (.invokevirtual 80, 3) := ze_182 zcode_700 rfl
theorem dl_703 : decode code 703 = .ok (.pop, 1) := ze_87 zcode_703
theorem dl_704 : decode code 704 = .ok (.goto 608, 3) := ze_167 zcode_704 (u := 608) rfl (Nat.le_of_ble_eq_true rfl)
theorem dl_707 : decode code 707 = .ok (.aload_n 1, 1) := ze_43 zcode_707
theorem dl_708 : decode code 708 = .ok (.aload_n 0, 1) := ze_42 zcode_708
theorem dl_709 : decode code 709 = .ok (.iload_n 3, 1) := ze_29 zcode_709
theorem dl_710 : decode code 710 = .ok (.iconst 1, 1) := ze_4 zcode_710
theorem dl_711 : decode code 711 = .ok (.iadd, 1) := ze_96 zcode_711
theorem dl_712 : decode code 712 = .ok (.iaload, 1) := ze_46 zcode_712
theorem dl_713 : decode code 713 = .ok (.aload_n 0, 1) := ze_42 zcode_713
theorem dl_714 : decode code 714 = .ok (.iload_n 3, 1) := ze_29 zcode_714
theorem dl_715 : decode code 715 = .ok (.iconst 2, 1) := ze_5 zcode_715
theorem dl_716 : decode code 716 = .ok (.iadd, 1) := ze_96 zcode_716
theorem dl_717 : decode code 717 = .ok (.iaload, 1) := ze_46 zcode_717
theorem dl_718 : decode code 718 = .ok (.ifCond .eq 7, 3) := ze_153 zcode_718 (u := 7) rfl (Nat.le_of_ble_eq_true rfl)
theorem dl_721 : decode code 721 = .ok (.iconst 1, 1) := ze_4 zcode_721
theorem dl_722 : decode code 722 = .ok (.goto 4, 3) := ze_167 zcode_722 (u := 4) rfl (Nat.le_of_ble_eq_true rfl)
theorem dl_725 : decode code 725 = .ok (.iconst 0, 1) := ze_3 zcode_725
theorem dl_726 : decode code 726 = .ok (.invokevirtual 81, 3) := ze_182 zcode_726 rfl
theorem dl_729 : decode code 729 = .ok (.pop, 1) := ze_87 zcode_729
theorem dl_730 : decode code 730 = .ok (.aload_n 2, 1) := ze_44 zcode_730
theorem dl_731 : decode code 731 = .ok (.aload_n 0, 1) := ze_42 zcode_731
theorem dl_732 : decode code 732 = .ok (.iload_n 3, 1) := ze_29 zcode_732
theorem dl_733 : decode code 733 = .ok (.iconst 1, 1) := ze_4 zcode_733
theorem dl_734 : decode code 734 = .ok (.iadd, 1) := ze_96 zcode_734
theorem dl_735 : decode code 735 = .ok (.iaload, 1) := ze_46 zcode_735
theorem dl_736 : decode code 736 = .ok (.aload_n 0, 1) := ze_42 zcode_736
theorem dl_737 : decode code 737 = .ok (.iload_n 3, 1) := ze_29 zcode_737
theorem dl_738 : decode code 738 = .ok (.iconst 2, 1) := ze_5 zcode_738
theorem dl_739 : decode code 739 = .ok (.iadd, 1) := ze_96 zcode_739
theorem dl_740 : decode code 740 = .ok (.iaload, 1) := ze_46 zcode_740
theorem dl_741 : decode code 741 = .ok (.ifCond .eq 7, 3) := ze_153 zcode_741 (u := 7) rfl (Nat.le_of_ble_eq_true rfl)
theorem dl_744 : decode code 744 = .ok (.iconst 1, 1) := ze_4 zcode_744
theorem dl_745 : decode code 745 = .ok (.goto 4, 3) := ze_167 zcode_745 (u := 4) rfl (Nat.le_of_ble_eq_true rfl)
theorem dl_748 : decode code 748 = .ok (.iconst 0, 1) := ze_3 zcode_748
theorem dl_749 : decode code 749 = .ok (.invokevirtual 84, 3) := ze_182 zcode_749 rfl
theorem dl_752 : decode code 752 = .ok (.pop, 1) := ze_87 zcode_752
theorem dl_753 : decode code 753 = .ok (.goto 559, 3) := ze_167 zcode_753 (u := 559) rfl (Nat.le_of_ble_eq_true rfl)
theorem dl_756 : decode code 756 = .ok (.aload_n 1, 1) := ze_43 zcode_756
theorem dl_757 : decode code 757 = .ok (.aload_n 0, 1) := ze_42 zcode_757
theorem dl_758 : decode code 758 = .ok (.iload_n 3, 1) := ze_29 zcode_758
theorem dl_759 : decode code 759 = .ok (.iconst 1, 1) := ze_4 zcode_759
theorem dl_760 : decode code 760 = .ok (.iadd, 1) := ze_96 zcode_760
theorem dl_761 : decode code 761 = .ok (.iaload, 1) := ze_46 zcode_761
theorem dl_762 : decode code 762 = .ok (.aload_n 0, 1) := ze_42 zcode_762
theorem dl_763 : decode code 763 = .ok (.iload_n 3, 1) := ze_29 zcode_763
theorem dl_764 : decode code 764 = .ok (.iconst 2, 1) := ze_5 zcode_764
theorem dl_765 : decode code 765 = .ok (.iadd, 1) := ze_96 zcode_765
theorem dl_766 : decode code 766 = .ok (.iaload, 1) := ze_46 zcode_766
theorem dl_767 : decode code 767 = .ok (.invokevirtual 85, 3) := ze_182 zcode_767 rfl
theorem dl_770 : decode code 770 = .ok (.pop, 1) := ze_87 zcode_770
theorem dl_771 : decode code 771 = .ok (.aload_n 2, 1) := ze_44 zcode_771
theorem dl_772 : decode code 772 = .ok (.aload_n 0, 1) := ze_42 zcode_772
theorem dl_773 : decode code 773 = .ok (.iload_n 3, 1) := ze_29 zcode_773
theorem dl_774 : decode code 774 = .ok (.iconst 1, 1) := ze_4 zcode_774
theorem dl_775 : decode code 775 = .ok (.iadd, 1) := ze_96 zcode_775
theorem dl_776 : decode code 776 = .ok (.iaload, 1) := ze_46 zcode_776
theorem dl_777 : decode code 777 = .ok (.aload_n 0, 1) := ze_42 zcode_777
theorem dl_778 : decode code 778 = .ok (.iload_n 3, 1) := ze_29 zcode_778
theorem dl_779 : decode code 779 = .ok (.iconst 2, 1) := ze_5 zcode_779
theorem dl_780 : decode code 780 = .ok (.iadd, 1) := ze_96 zcode_780
theorem dl_781 : decode code 781 = .ok (.iaload, 1) := ze_46 zcode_781
theorem dl_782 : decode code 782 = .ok (.invokevirtual 88, 3) := ze_182 zcode_782 rfl
theorem dl_785 : decode code 785 = .ok (.pop, 1) := ze_87 zcode_785
theorem dl_786 : decode code 786 = .ok (.goto 526, 3) := ze_167 zcode_786 (u := 526) rfl (Nat.le_of_ble_eq_true rfl)
theorem dl_789 : decode code 789 = .ok (.aload_n 1, 1) := ze_43 zcode_789
theorem dl_790 : decode code 790 = .ok (.aload_n 0, 1) := ze_42 zcode_790
theorem dl_791 : decode code 791 = .ok (.iload_n 3, 1) := ze_29 zcode_791
theorem dl_792 : decode code 792 = .ok (.iconst 1, 1) := ze_4 zcode_792
theorem dl_793 : decode code 793 = .ok (.iadd, 1) := ze_96 zcode_793
theorem dl_794 : decode code 794 = .ok (.iaload, 1) := ze_46 zcode_794
theorem dl_795 : decode code 795 = .ok (.aload_n 0, 1) := ze_42 zcode_795
theorem dl_796 : decode code 796 = .ok (.iload_n 3, 1) := ze_29 zcode_796
theorem dl_797 : decode code 797 = .ok (.iconst 2, 1) := ze_5 zcode_797
theorem dl_798 : decode code 798 = .ok (.iadd, 1) := ze_96 zcode_798
theorem dl_799 : decode code 799 = .ok (.iaload, 1) := ze_46 zcode_799
theorem dl_800 : decode code 800 = .ok (.invokevirtual 89, 3) := ze_182 zcode_800 rfl
theorem dl_803 : decode code 803 = .ok (.pop, 1) := ze_87 zcode_803
theorem dl_804 : decode code 804 = .ok (.aload_n 2, 1) := ze_44 zcode_804
theorem dl_805 : decode code 805 = .ok (.aload_n 0, 1) := ze_42 zcode_805
theorem dl_806 : decode code 806 = .ok (.iload_n 3, 1) := ze_29 zcode_806
theorem dl_807 : decode code 807 = .ok (.iconst 1, 1) := ze_4 zcode_807
theorem dl_808 : decode code 808 = .ok (.iadd, 1) := ze_96 zcode_808
theorem dl_809 : decode code 809 = .ok (.iaload, 1) := ze_46 zcode_809
theorem dl_810 : decode code 810 = .ok (.aload_n 0, 1) := ze_42 zcode_810
theorem dl_811 : decode code 811 = .ok (.iload_n 3, 1) := ze_29 zcode_811
theorem dl_812 : decode code 812 = .ok (.iconst 2, 1) := ze_5 zcode_812
theorem dl_813 : decode code 813 = .ok (.iadd, 1) := ze_96 zcode_813
theorem dl_814 : decode code 814 = .ok (.iaload, 1) := ze_46 zcode_814
theorem dl_815 : decode code 815 = .ok (.invokevirtual 93, 3) := ze_182 zcode_815 rfl
theorem dl_818 : decode code 818 = .ok (.pop, 1) := ze_87 zcode_818
theorem dl_819 : decode code 819 = .ok (.goto 493, 3) := ze_167 zcode_819 (u := 493) rfl (Nat.le_of_ble_eq_true rfl)
theorem dl_822 : decode code 822 = .ok (.aload_n 1, 1) := ze_43 zcode_822
theorem dl_823 : decode code 823 = .ok (.invokevirtual 94, 3) := ze_182 zcode_823 rfl
theorem dl_826 : decode code 826 = .ok (.pop, 1) := ze_87 zcode_826
theorem dl_827 : decode code 827 = .ok (.aload_n 2, 1) := ze_44 zcode_827
theorem dl_828 : decode code 828 = .ok (.invokevirtual 98, 3) := ze_182 zcode_828 rfl
theorem dl_831 : decode code 831 = .ok (.pop, 1) := ze_87 zcode_831
theorem dl_832 : decode code 832 = .ok (.goto 480, 3) := ze_167 zcode_832 (u := 480) rfl (Nat.le_of_ble_eq_true rfl)
theorem dl_835 : decode code 835 = .ok (.aload_n 1, 1) := ze_43 zcode_835
theorem dl_836 : decode code 836 = .ok (.aload_n 0, 1) := ze_42 zcode_836
theorem dl_837 : decode code 837 = .ok (.iload_n 3, 1) := ze_29 zcode_837
theorem dl_838 : decode code 838 = .ok (.iconst 1, 1) := ze_4 zcode_838
theorem dl_839 : decode code 839 = .ok (.iadd, 1) := ze_96 zcode_839
theorem dl_840 : decode code 840 = .ok (.iaload, 1) := ze_46 zcode_840
theorem dl_841 : decode code 841 = .ok (.invokevirtual 99, 3) := ze_182 zcode_841 rfl
theorem dl_844 : decode code 844 = .ok (.pop, 1) := ze_87 zcode_844
theorem dl_845 : decode code 845 = .ok (.aload_n 2, 1) := ze_44 zcode_845
theorem dl_846 : decode code 846 = .ok (.aload_n 0, 1) := ze_42 zcode_846
theorem dl_847 : decode code 847 = .ok (.iload_n 3, 1) := ze_29 zcode_847
theorem dl_848 : decode code 848 = .ok (.iconst 1, 1) := ze_4 zcode_848
theorem dl_849 : decode code 849 = .ok (.iadd, 1) := ze_96 zcode_849
theorem dl_850 : decode code 850 = .ok (.iaload, 1) := ze_46 zcode_850
theorem dl_851 : decode code 851 = .ok (.invokevirtual 102, 3) := ze_182 zcode_851 rfl
theorem dl_854 : decode code 854 = .ok (.pop, 1) := ze_87 zcode_854
theorem dl_855 : decode code 855 = .ok (.goto 457, 3) := ze_167 zcode_855 (u := 457) rfl (Nat.le_of_ble_eq_true rfl)
theorem dl_858 : decode code 858 = .ok (.aload_n 1, 1) := ze_43 zcode_858
theorem dl_859 : decode code 859 = .ok (.aload_n 0, 1) := ze_42 zcode_859
theorem dl_860 : decode code 860 = .ok (.iload_n 3, 1) := ze_29 zcode_860
theorem dl_861 : decode code 861 = .ok (.iconst 1, 1) := ze_4 zcode_861
theorem dl_862 : decode code 862 = .ok (.iadd, 1) := ze_96 zcode_862
theorem dl_863 : decode code 863 = .ok (.iaload, 1) := ze_46 zcode_863
theorem dl_864 : decode code 864 = .ok (.aload_n 0, 1) := ze_42 zcode_864
theorem dl_865 : decode code 865 = .ok (.iload_n 3, 1) := ze_29 zcode_865
theorem dl_866 : decode code 866 = .ok (.iconst 2, 1) := ze_5 zcode_866
theorem dl_867 : decode code 867 = .ok (.iadd, 1) := ze_96 zcode_867
theorem dl_868 : decode code 868 = .ok (.iaload, 1) := ze_46 zcode_868
theorem dl_869 : decode code 869 = .ok (.aload_n 0, 1) := ze_42 zcode_869
theorem dl_870 : decode code 870 = .ok (.iload_n 3, 1) := ze_29 zcode_870
theorem dl_871 : decode code 871 = .ok (.iconst 3, 1) := ze_6 zcode_871
theorem dl_872 : decode code 872 = .ok (.iadd, 1) := ze_96 zcode_872
theorem dl_873 : decode code 873 = .ok (.iaload, 1) := ze_46 zcode_873
theorem dl_874 : decode code 874 = .ok (.invokevirtual 103, 3) := ze_182 zcode_874 rfl
theorem dl_877 : decode code 877 = .ok (.pop, 1) := ze_87 zcode_877
theorem dl_878 : decode code 878 = .ok (.aload_n 2, 1) := ze_44 zcode_878
theorem dl_879 : decode code 879 = .ok (.aload_n 0, 1) := ze_42 zcode_879
theorem dl_880 : decode code 880 = .ok (.iload_n 3, 1) := ze_29 zcode_880
theorem dl_881 : decode code 881 = .ok (.iconst 1, 1) := ze_4 zcode_881
theorem dl_882 : decode code 882 = .ok (.iadd, 1) := ze_96 zcode_882
theorem dl_883 : decode code 883 = .ok (.iaload, 1) := ze_46 zcode_883
theorem dl_884 : decode code 884 = .ok (.aload_n 0, 1) := ze_42 zcode_884
theorem dl_885 : decode code 885 = .ok (.iload_n 3, 1) := ze_29 zcode_885
theorem dl_886 : decode code 886 = .ok (.iconst 2, 1) := ze_5 zcode_886
theorem dl_887 : decode code 887 = .ok (.iadd, 1) := ze_96 zcode_887
theorem dl_888 : decode code 888 = .ok (.iaload, 1) := ze_46 zcode_888
theorem dl_889 : decode code 889 = .ok (.aload_n 0, 1) := ze_42 zcode_889
theorem dl_890 : decode code 890 = .ok (.iload_n 3, 1) := ze_29 zcode_890
theorem dl_891 : decode code 891 = .ok (.iconst 3, 1) := ze_6 zcode_891
theorem dl_892 : decode code 892 = .ok (.iadd, 1) := ze_96 zcode_892
theorem dl_893 : decode code 893 = .ok (.iaload, 1) := ze_46 zcode_893
theorem dl_894 : decode code 894 = .ok (.invokevirtual 106, 3) := ze_182 zcode_894 rfl
theorem dl_897 : decode code 897 = .ok (.pop, 1) := ze_87 zcode_897
theorem dl_898 : decode code 898 = .ok (.goto 414, 3) := ze_167 zcode_898 (u := 414) rfl (Nat.le_of_ble_eq_true rfl)
theorem dl_901 : decode code 901 = .ok (.aload_n 1, 1) := ze_43 zcode_901
theorem dl_902 : decode code 902 = .ok (.aload_n 0, 1) := ze_42 zcode_902
theorem dl_903 : decode code 903 = .ok (.iload_n 3, 1) := ze_29 zcode_903
theorem dl_904 : decode code 904 = .ok (.iconst 1, 1) := ze_4 zcode_904
theorem dl_905 : decode code 905 = .ok (.iadd, 1) := ze_96 zcode_905
theorem dl_906 : decode code 906 = .ok (.iaload, 1) := ze_46 zcode_906
theorem dl_907 : decode code 907 = .ok (.aload_n 0, 1) := ze_42 zcode_907
theorem dl_908 : decode code 908 = .ok (.iload_n 3, 1) := ze_29 zcode_908
theorem dl_909 : decode code 909 = .ok (.iconst 2, 1) := ze_5 zcode_909
theorem dl_910 : decode code 910 = .ok (.iadd, 1) := ze_96 zcode_910
theorem dl_911 : decode code 911 = .ok (.iaload, 1) := ze_46 zcode_911
theorem dl_912 : decode code 912 = .ok (.invokevirtual 107, 3) := ze_182 zcode_912 rfl
theorem dl_915 : decode code 915 = .ok (.pop, 1) := ze_87 zcode_915
theorem dl_916 : decode code 916 = .ok (.aload_n 2, 1) := ze_44 zcode_916
theorem dl_917 : decode code 917 = .ok (.aload_n 0, 1) := ze_42 zcode_917
theorem dl_918 : decode code 918 = .ok (.iload_n 3, 1) := ze_29 zcode_918
theorem dl_919 : decode code 919 = .ok (.iconst 1, 1) := ze_4 zcode_919
theorem dl_920 : decode code 920 = .ok (.iadd, 1) := ze_96 zcode_920
theorem dl_921 : decode code 921 = .ok (.iaload, 1) := ze_46 zcode_921
theorem dl_922 : decode code 922 = .ok (.aload_n 0, 1) := ze_42 zcode_922
theorem dl_923 : decode code 923 = .ok (.iload_n 3, 1) := ze_29 zcode_923
theorem dl_924 : decode code 924 = .ok (.iconst 2, 1) := ze_5 zcode_924
theorem dl_925 : decode code 925 = .ok (.iadd, 1) := ze_96 zcode_925
theorem dl_926 : decode code 926 = .ok (.iaload, 1) := ze_46 zcode_926
theorem dl_927 : decode code 927 = .ok (.invokevirtual 110, 3) := ze_182 zcode_927 rfl
theorem dl_930 : decode code 930 = .ok (.pop, 1) := ze_87 zcode_930
theorem dl_931 : decode code 931 = .ok (.goto 381, 3) := ze_167 zcode_931 (u := 381) rfl (Nat.le_of_ble_eq_true rfl)
theorem dl_934 : decode code 934 = .ok (.aload_n 1, 1) := ze_43 zcode_934
theorem dl_935 : decode code 935 = .ok (.aload_n 0, 1) := ze_42 zcode_935
theorem dl_936 : decode code 936 = .ok (.iload_n 3, 1) := ze_29 zcode_936
theorem dl_937 : decode code 937 = .ok (.iconst 1, 1) := ze_4 zcode_937
theorem dl_938 : decode code 938 = .ok (.iadd, 1) := ze_96 zcode_938
theorem dl_939 : decode code 939 = .ok (.iaload, 1) := ze_46 zcode_939
theorem dl_940 : decode code 940 = .ok (.aload_n 0, 1) := ze_42 zcode_940
theorem dl_941 : decode code 941 = .ok (.iload_n 3, 1) := ze_29 zcode_941
theorem dl_942 : decode code 942 = .ok (.iconst 2, 1) := ze_5 zcode_942
theorem dl_943 : decode code 943 = .ok (.iadd, 1) := ze_96 zcode_943
theorem dl_944 : decode code 944 = .ok (.iaload, 1) := ze_46 zcode_944
theorem dl_945 : decode code 945 = .ok (.invokevirtual 111, 3) := ze_182 zcode_945 rfl
theorem dl_948 : decode code 948 = .ok (.pop, 1) := ze_87 zcode_948
theorem dl_949 : decode code 949 = .ok (.aload_n 2, 1) := ze_44 zcode_949
theorem dl_950 : decode code 950 = .ok (.aload_n 0, 1) := ze_42 zcode_950
theorem dl_951 : decode code 951 = .ok (.iload_n 3, 1) := ze_29 zcode_951
theorem dl_952 : decode code 952 = .ok (.iconst 1, 1) := ze_4 zcode_952
theorem dl_953 : decode code 953 = .ok (.iadd, 1) := ze_96 zcode_953
theorem dl_954 : decode code 954 = .ok (.iaload, 1) := ze_46 zcode_954
theorem dl_955 : decode code 955 = .ok (.aload_n 0, 1) := ze_42 zcode_955
theorem dl_956 : decode code 956 = .ok (.iload_n 3, 1) := ze_29 zcode_956
theorem dl_957 : decode code 957 = .ok (.iconst 2, 1) := ze_5 zcode_957
theorem dl_958 : decode code 958 = .ok (.iadd, 1) := ze_96 zcode_958
theorem dl_959 : decode code 959 = .ok (.iaload, 1) := ze_46 zcode_959
theorem dl_960 : decode code 960 = .ok (.invokevirtual 114, 3) := ze_182 zcode_960 rfl
theorem dl_963 : decode code 963 = .ok (.pop, 1) := ze_87 zcode_963
theorem dl_964 : decode code 964 = .ok (.goto 348, 3) := ze_167 zcode_964 (u := 348) rfl (Nat.le_of_ble_eq_true rfl)
theorem dl_967 : decode code 967 = .ok (.aload_n 1, 1) := ze_43 zcode_967
theorem dl_968 : decode code 968 = .ok (.invokevirtual 115, 3) := ze_182 zcode_968 rfl
theorem dl_971 : decode code 971 = .ok (.pop, 1) := ze_87 zcode_971
theorem dl_972 : decode code 972 = .ok (.aload_n 2, 1) := ze_44 zcode_972
theorem dl_973 : decode code 973 = .ok (.invokevirtual 118, 3) := ze_182 zcode_973 rfl
theorem dl_976 : decode code 976 = .ok (.pop, 1) := ze_87 zcode_976
theorem dl_977 : decode code 977 = .ok (.goto 335, 3) := ze_167 zcode_977 (u := 335) rfl (Nat.le_of_ble_eq_true rfl)
theorem dl_980 : decode code 980 = .ok (.aload_n 1, 1) := ze_43 zcode_980
theorem dl_981 : decode code 981 = .ok (.aload_n 0, 1) := ze_42 zcode_981
theorem dl_982 : decode code 982 = .ok (.iload_n 3, 1) := ze_29 zcode_982
theorem dl_983 : decode code 983 = .ok (.iconst 1, 1) := ze_4 zcode_983
theorem dl_984 : decode code 984 = .ok (.iadd, 1) := ze_96 zcode_984
theorem dl_985 : decode code 985 = .ok (.iaload, 1) := ze_46 zcode_985
theorem dl_986 : decode code 986 = .ok (.invokevirtual 119, 3) := ze_182 zcode_986 rfl
theorem dl_989 : decode code 989 = .ok (.pop, 1) := ze_87 zcode_989
theorem dl_990 : decode code 990 = .ok (.aload_n 2, 1) := ze_44 zcode_990
theorem dl_991 : decode code 991 = .ok (.aload_n 0, 1) := ze_42 zcode_991
theorem dl_992 : decode code 992 = .ok (.iload_n 3, 1) := ze_29 zcode_992
theorem dl_993 : decode code 993 = .ok (.iconst 1, 1) := ze_4 zcode_993
theorem dl_994 : decode code 994 = .ok (.iadd, 1) := ze_96 zcode_994
theorem dl_995 : decode code 995 = .ok (.iaload, 1) := ze_46 zcode_995
theorem dl_996 : decode code 996 = .ok (.invokevirtual 122, 3) := ze_182 zcode_996 rfl
theorem dl_999 : decode code 999 = .ok (.pop, 1) := ze_87 zcode_999
theorem dl_1000 : decode code 1000 = .ok (.goto 312, 3) := ze_167 zcode_1000 (u := 312) rfl (Nat.le_of_ble_eq_true rfl)
theorem dl_1003 : decode code 1003 = .ok (.aload_n 1, 1) := ze_43 zcode_1003
theorem dl_1004 : decode code 1004 = .ok (.aload_n 0, 1) := ze_42 zcode_1004
theorem dl_1005 : decode code 1005 = .ok (.iload_n 3, 1) := ze_29 zcode_1005
theorem dl_1006 : decode code 1006 = .ok (.iconst 1, 1) := ze_4 zcode_1006
theorem dl_1007 : decode code 1007 = .ok (.iadd, 1) := ze_96 zcode_1007
theorem dl_1008 : decode code 1008 = .ok (.iaload, 1) := ze_46 zcode_1008
theorem dl_1009 : decode code 1009 = .ok (.invokevirtual 123, 3) := ze_182 zcode_1009 rfl
theorem dl_1012 : decode code 1012 = .ok (.pop, 1) := ze_87 zcode_1012
theorem dl_1013 : decode code 1013 = .ok (.aload_n 2, 1) := ze_44 zcode_1013
theorem dl_1014 : decode code 1014 = .ok (.aload_n 0, 1) := ze_42 zcode_1014
theorem dl_1015 : decode code 1015 = .ok (.iload_n 3, 1) := ze_29 zcode_1015
theorem dl_1016 : decode code 1016 = .ok (.iconst 1, 1) := ze_4 zcode_1016
theorem dl_1017 : decode code 1017 = .ok (.iadd, 1) := ze_96 zcode_1017
theorem dl_1018 : decode code 1018 = .ok (.iaload, 1) := ze_46 zcode_1018
theorem dl_1019 : decode code 1019 = .ok (.invokevirtual 126, 3) := ze_182 zcode_1019 rfl
theorem dl_1022 : decode code 1022 = .ok (.pop, 1) := ze_87 zcode_1022
theorem dl_1023 : decode code 1023 = .ok (.goto 289, 3) := ze_167 zcode_1023 (u := 289) rfl (Nat.le_of_ble_eq_true rfl)
theorem dl_1026 : decode code 1026 = .ok (.aload_n 1, 1) := ze_43 zcode_1026
theorem dl_1027 : decode code 1027 = .ok (.invokevirtual 127, 3) := ze_182 zcode_1027 rfl
theorem dl_1030 : decode code 1030 = .ok (.pop, 1) := ze_87 zcode_1030
theorem dl_1031 : decode code 1031 = .ok (.aload_n 2, 1) := ze_44 zcode_1031
theorem dl_1032 : decode code 1032 = .ok (.invokevirtual 130, 3) := ze_182 zcode_1032 rfl
theorem dl_1035 : decode code 1035 = .ok (.pop, 1) := ze_87 zcode_1035
theorem dl_1036 : decode code 1036 = .ok (.goto 276, 3) := ze_167 zcode_1036 (u := 276) rfl (Nat.le_of_ble_eq_true rfl)
theorem dl_1039 : decode code 1039 = .ok (.aload_n 1, 1) := ze_43 zcode_1039
theorem dl_1040 : decode code 1040 = .ok (.aload_n 0, 1) := ze_42 zcode_1040
theorem dl_1041 : decode code 1041 = .ok (.iload_n 3, 1) := ze_29 zcode_1041
theorem dl_1042 : decode code 1042 = .ok (.iconst 1, 1) := ze_4 zcode_1042
theorem dl_1043 : decode code 1043 = .ok (.iadd, 1) := ze_96 zcode_1043
theorem dl_1044 : decode code 1044 = .ok (.iaload, 1) := ze_46 zcode_1044
theorem dl_1045 : decode code 1045 = .ok (.invokevirtual 131, 3) := ze_182 zcode_1045 rfl
theorem dl_1048 : decode code 1048 = .ok (.pop, 1) := ze_87 zcode_1048
theorem dl_1049 : decode code 1049 = .ok (.aload_n 2, 1) := ze_44 zcode_1049
theorem dl_1050 : decode code 1050 = .ok (.aload_n 0, 1) := ze_42 zcode_1050
theorem dl_1051 : decode code 1051 = .ok (.iload_n 3, 1) := ze_29 zcode_1051
theorem dl_1052 : decode code 1052 = .ok (.iconst 1, 1) := ze_4 zcode_1052
theorem dl_1053 : decode code 1053 = .ok (.iadd, 1) := ze_96 zcode_1053
theorem dl_1054 : decode code 1054 = .ok (.iaload, 1) := ze_46 zcode_1054
theorem dl_1055 : decode code 1055 = .ok (.invokevirtual 134, 3) := ze_182 zcode_1055 rfl
theorem dl_1058 : decode code 1058 = .ok (.pop, 1) := ze_87 zcode_1058
theorem dl_1059 : decode code 1059 = .ok (.goto 253, 3) := ze_167 zcode_1059 (u := 253) rfl (Nat.le_of_ble_eq_true rfl)
theorem dl_1062 : decode code 1062 = .ok (.aload_n 1, 1) := ze_43 zcode_1062
theorem dl_1063 : decode code 1063 = .ok (.invokevirtual 135, 3) := ze_182 zcode_1063 rfl
theorem dl_1066 : decode code 1066 = .ok (.pop, 1) := ze_87 zcode_1066
theorem dl_1067 : decode code 1067 = .ok (.aload_n 2, 1) := ze_44 zcode_1067
theorem dl_1068 : decode code 1068 = .ok (.invokevirtual 138, 3) := ze_182 zcode_1068 rfl
theorem dl_1071 : decode code 1071 = .ok (.pop, 1) := ze_87 zcode_1071
theorem dl_1072 : decode code 1072 = .ok (.goto 240, 3) := ze_167 zcode_1072 (u := 240) rfl (Nat.le_of_ble_eq_true rfl)
theorem dl_1075 : decode code 1075 = .ok (.aload_n 1, 1) := ze_43 zcode_1075
theorem dl_1076 : decode code 1076 = .ok (.aload_n 0, 1) := ze_42 zcode_1076
theorem dl_1077 : decode code 1077 = .ok (.iload_n 3, 1) := ze_29 zcode_1077
theorem dl_1078 : decode code 1078 = .ok (.iconst 1, 1) := ze_4 zcode_1078
theorem dl_1079 : decode code 1079 = .ok (.iadd, 1) := ze_96 zcode_1079
theorem dl_1080 : decode code 1080 = .ok (.iaload, 1) := ze_46 zcode_1080
theorem dl_1081 : decode code 1081 = .ok (.aload_n 0, 1) := ze_42 zcode_1081
theorem dl_1082 : decode code 1082 = .ok (.iload_n 3, 1) := ze_29 zcode_1082
theorem dl_1083 : decode code 1083 = .ok (.iconst 2, 1) := ze_5 zcode_1083
theorem dl_1084 : decode code 1084 = .ok (.iadd, 1) := ze_96 zcode_1084
theorem dl_1085 : decode code 1085 = .ok (.iaload, 1) := ze_46 zcode_1085
theorem dl_1086 : decode code 1086 = .ok (.invokevirtual 139, 3) := ze_182 zcode_1086 rfl
theorem dl_1089 : decode code 1089 = .ok (.pop, 1) := ze_87 zcode_1089
theorem dl_1090 : decode code 1090 = .ok (.aload_n 2, 1) := ze_44 zcode_1090
theorem dl_1091 : decode code 1091 = .ok (.aload_n 0, 1) := ze_42 zcode_1091
theorem dl_1092 : decode code 1092 = .ok (.iload_n 3, 1) := ze_29 zcode_1092
theorem dl_1093 : decode code 1093 = .ok (.iconst 1, 1) := ze_4 zcode_1093
theorem dl_1094 : decode code 1094 = .ok (.iadd, 1) := ze_96 zcode_1094
theorem dl_1095 : decode code 1095 = .ok (.iaload, 1) := ze_46 zcode_1095
theorem dl_1096 : decode code 1096 = .ok (.aload_n 0, 1) := ze_42 zcode_1096
theorem dl_1097 : decode code 1097 = .ok (.iload_n 3, 1) := ze_29 zcode_1097
theorem dl_1098 : decode code 1098 = .ok (.iconst 2, 1) := ze_5 zcode_1098
theorem dl_1099 : decode code 1099 = .ok (.iadd, 1) := ze_96 zcode_1099
theorem dl_1100 : decode code 1100 = .ok (.iaload, 1) := ze_46 zcode_1100
theorem dl_1101 : decode code 1101 = .ok (.invokevirtual 142, 3) := ze_182 zcode_1101 rfl
theorem dl_1104 : decode code 1104 = .ok (.pop, 1) := ze_87 zcode_1104
theorem dl_1105 : decode code 1105 = .ok (.goto 207, 3) := ze_167 zcode_1105 (u := 207) rfl (Nat.le_of_ble_eq_true rfl)
theorem dl_1108 : decode code 1108 = .ok (.aload_n 1, 1) := ze_43 zcode_1108
theorem dl_1109 : decode code 1109 = .ok (.aload_n 0, 1) := ze_42 zcode_1109
theorem dl_1110 : decode code 1110 = .ok (.iload_n 3, 1) := ze_29 zcode_1110
theorem dl_1111 : decode code 1111 = .ok (.iconst 1, 1) := ze_4 zcode_1111
theorem dl_1112 : decode code 1112 = .ok (.iadd, 1) := ze_96 zcode_1112
theorem dl_1113 : decode code 1113 = .ok (.iaload, 1) := ze_46 zcode_1113
theorem dl_1114 : decode code 1114 = .ok (.aload_n 0, 1) := ze_42 zcode_1114
theorem dl_1115 : decode code 1115 = .ok (.iload_n 3, 1) := ze_29 zcode_1115
theorem dl_1116 : decode code 1116 = .ok (.iconst 2, 1) := ze_5 zcode_1116
theorem dl_1117 : decode code 1117 = .ok (.iadd, 1) := ze_96 zcode_1117
theorem dl_1118 : decode code 1118 = .ok (.iaload, 1) := ze_46 zcode_1118
theorem dl_1119 : decode code 1119 = .ok (.invokevirtual 143, 3) := ze_182 zcode_1119 rfl
theorem dl_1122 : decode code 1122 = .ok (.pop, 1) := ze_87 zcode_1122
theorem dl_1123 : decode code 1123 = .ok (.aload_n 2, 1) := ze_44 zcode_1123
theorem dl_1124 : decode code 1124 = .ok (.aload_n 0, 1) := ze_42 zcode_1124
theorem dl_1125 : decode code 1125 = .ok (.iload_n 3, 1) := ze_29 zcode_1125
theorem dl_1126 : decode code 1126 = .ok (.iconst 1, 1) := ze_4 zcode_1126
theorem dl_1127 : decode code 1127 = .ok (.iadd, 1) := ze_96 zcode_1127
theorem dl_1128 : decode code 1128 = .ok (.iaload, 1) := ze_46 zcode_1128
theorem dl_1129 : decode code 1129 = .ok (.aload_n 0, 1) := ze_42 zcode_1129
theorem dl_1130 : decode code 1130 = .ok (.iload_n 3, 1) := ze_29 zcode_1130
theorem dl_1131 : decode code 1131 = .ok (.iconst 2, 1) := ze_5 zcode_1131
theorem dl_1132 : decode code 1132 = .ok (.iadd, 1) := ze_96 zcode_1132
theorem dl_1133 : decode code 1133 = .ok (.iaload, 1) := ze_46 zcode_1133
theorem dl_1134 : decode code 1134 = .ok (.invokevirtual 146, 3) := ze_182 zcode_1134 rfl
theorem dl_1137 : decode code 1137 = .ok (.pop, 1) := ze_87 zcode_1137
theorem dl_1138 : decode code 1138 = .ok (.goto 174, 3) := ze_167 zcode_1138 (u := 174) rfl (Nat.le_of_ble_eq_true rfl)
theorem dl_1141 : decode code 1141 = .ok (.aload_n 1, 1) := ze_43 zcode_1141
theorem dl_1142 : decode code 1142 = .ok (.aload_n 0, 1) := ze_42 zcode_1142
theorem dl_1143 : decode code 1143 = .ok (.iload_n 3, 1) := ze_29 zcode_1143
theorem dl_1144 : decode code 1144 = .ok (.iconst 1, 1) := ze_4 zcode_1144
theorem dl_1145 : decode code 1145 = .ok (.iadd, 1) := ze_96 zcode_1145
theorem dl_1146 : decode code 1146 = .ok (.iaload, 1) := ze_46 zcode_1146
theorem dl_1147 : decode code 1147 = .ok (.invokevirtual 147, 3) := ze_182 zcode_1147 rfl
theorem dl_1150 : decode code 1150 = .ok (.pop, 1) := ze_87 zcode_1150
theorem dl_1151 : decode code 1151 = .ok (.aload_n 2, 1) := ze_44 zcode_1151
theorem dl_1152 : decode code 1152 = .ok (.aload_n 0, 1) := ze_42 zcode_1152
theorem dl_1153 : decode code 1153 = .ok (.iload_n 3, 1) := ze_29 zcode_1153
theorem dl_1154 : decode code 1154 = .ok (.iconst 1, 1) := ze_4 zcode_1154
theorem dl_1155 : decode code 1155 = .ok (.iadd, 1) := ze_96 zcode_1155
theorem dl_1156 : decode code 1156 = .ok (.iaload, 1) := ze_46 zcode_1156
theorem dl_1157 : decode code 1157 = .ok (.invokevirtual 150, 3) := ze_182 zcode_1157 rfl
theorem dl_1160 : decode code 1160 = .ok (.pop, 1) := ze_87 zcode_1160
theorem dl_1161 : decode code 1161 = .ok (.goto 151, 3) := ze_167 zcode_1161 (u := 151) rfl (Nat.le_of_ble_eq_true rfl)
theorem dl_1164 : decode code 1164 = .ok (.aload_n 1, 1) := ze_43 zcode_1164
theorem dl_1165 : decode code 1165 = .ok (.aload_n 0, 1) := ze_42 zcode_1165
theorem dl_1166 : decode code 1166 = .ok (.iload_n 3, 1) := ze_29 zcode_1166
theorem dl_1167 : decode code 1167 = .ok (.iconst 1, 1) := ze_4 zcode_1167
theorem dl_1168 : decode code 1168 = .ok (.iadd, 1) := ze_96 zcode_1168
theorem dl_1169 : decode code 1169 = .ok (.iaload, 1) := ze_46 zcode_1169
theorem dl_1170 : decode code 1170 = .ok (.aload_n 0, 1) := ze_42 zcode_1170
theorem dl_1171 : decode code 1171 = .ok (.iload_n 3, 1) := ze_29 zcode_1171
theorem dl_1172 : decode code 1172 = .ok (.iconst 2, 1) := ze_5 zcode_1172
theorem dl_1173 : decode code 1173 = .ok (.iadd, 1) := ze_96 zcode_1173
theorem dl_1174 : decode code 1174 = .ok (.iaload, 1) := ze_46 zcode_1174
theorem dl_1175 : decode code 1175 = .ok (.invokevirtual 151, 3) := ze_182 zcode_1175 rfl
theorem dl_1178 : decode code 1178 = .ok (.pop, 1) := ze_87 zcode_1178
theorem dl_1179 : decode code 1179 = .ok (.aload_n 2, 1) := ze_44 zcode_1179
theorem dl_1180 : decode code 1180 = .ok (.aload_n 0, 1) := ze_42 zcode_1180
theorem dl_1181 : decode code 1181 = .ok (.iload_n 3, 1) := ze_29 zcode_1181
theorem dl_1182 : decode code 1182 = .ok (.iconst 1, 1) := ze_4 zcode_1182
theorem dl_1183 : decode code 1183 = .ok (.iadd, 1) := ze_96 zcode_1183
theorem dl_1184 : decode code 1184 = .ok (.iaload, 1) := ze_46 zcode_1184
theorem dl_1185 : decode code 1185 = .ok (.aload_n 0, 1) := ze_42 zcode_1185
theorem dl_1186 : decode code 1186 = .ok (.iload_n 3, 1) := ze_29 zcode_1186
theorem dl_1187 : decode code 1187 = .ok (.iconst 2, 1) := ze_5 zcode_1187
theorem dl_1188 : decode code 1188 = .ok (.iadd, 1) := ze_96 zcode_1188
theorem dl_1189 : decode code 1189 = .ok (.iaload, 1) := ze_46 zcode_1189
theorem dl_1190 : decode code 1190 = .ok (.invokevirtual 154, 3) := ze_182 zcode_1190 rfl
theorem dl_1193 : decode code 1193 = .ok (.pop, 1) := ze_87 zcode_1193
theorem dl_1194 : decode code 1194 = .ok (.goto 118, 3) := ze_167 zcode_1194 (u := 118) rfl (Nat.le_of_ble_eq_true rfl)
theorem dl_1197 : decode code 1197 = .ok (.aload_n 1, 1) := ze_43 zcode_1197
theorem dl_1198 : decode code 1198 = .ok (.aload_n 0, 1) := ze_42 zcode_1198
theorem dl_1199 : decode code 1199 = .ok (.iload_n 3, 1) := ze_29 zcode_1199
theorem dl_1200 : decode code 1200 = .ok (.iconst 1, 1) := ze_4 zcode_1200
theorem dl_1201 : decode code 1201 = .ok (.iadd, 1) := ze_96 zcode_1201
theorem dl_1202 : decode code 1202 = .ok (.iaload, 1) := ze_46 zcode_1202
theorem dl_1203 : decode code 1203 = .ok (.aload_n 0, 1) := ze_42 zcode_1203
theorem dl_1204 : decode code 1204 = .ok (.iload_n 3, 1) := ze_29 zcode_1204
theorem dl_1205 : decode code 1205 = .ok (.iconst 2, 1) := ze_5 zcode_1205
theorem dl_1206 : decode code 1206 = .ok (.iadd, 1) := ze_96 zcode_1206
theorem dl_1207 : decode code 1207 = .ok (.iaload, 1) := ze_46 zcode_1207
theorem dl_1208 : decode code 1208 = .ok (.aload_n 0, 1) := ze_42 zcode_1208
theorem dl_1209 : decode code 1209 = .ok (.iload_n 3, 1) := ze_29 zcode_1209
theorem dl_1210 : decode code 1210 = .ok (.iconst 3, 1) := ze_6 zcode_1210
theorem dl_1211 : decode code 1211 = .ok (.iadd, 1) := ze_96 zcode_1211
theorem dl_1212 : decode code 1212 = .ok (.iaload, 1) := ze_46 zcode_1212
theorem dl_1213 : decode code 1213 = .ok (.invokevirtual 155, 3) := ze_182 zcode_1213 rfl
theorem dl_1216 : decode code 1216 = .ok (.pop, 1) := ze_87 zcode_1216
theorem dl_1217 : decode code 1217 = .ok (.aload_n 2, 1) := ze_44 zcode_1217
theorem dl_1218 : decode code 1218 = .ok (.aload_n 0, 1) := ze_42 zcode_1218
theorem dl_1219 : decode code 1219 = .ok (.iload_n 3, 1) := ze_29 zcode_1219
theorem dl_1220 : decode code 1220 = .ok (.iconst 1, 1) := ze_4 zcode_1220
theorem dl_1221 : decode code 1221 = .ok (.iadd, 1) := ze_96 zcode_1221
theorem dl_1222 : decode code 1222 = .ok (.iaload, 1) := ze_46 zcode_1222
theorem dl_1223 : decode code 1223 = .ok (.aload_n 0, 1) := ze_42 zcode_1223
theorem dl_1224 : decode code 1224 = .ok (.iload_n 3, 1) := ze_29 zcode_1224
theorem dl_1225 : decode code 1225 = .ok (.iconst 2, 1) := ze_5 zcode_1225
theorem dl_1226 : decode code 1226 = .ok (.iadd, 1) := ze_96 zcode_1226
theorem dl_1227 : decode code 1227 = .ok (.iaload, 1) := ze_46 zcode_1227
theorem dl_1228 : decode code 1228 = .ok (.aload_n 0, 1) := ze_42 zcode_1228
theorem dl_1229 : decode code 1229 = .ok (.iload_n 3, 1) := ze_29 zcode_1229
theorem dl_1230 : decode code 1230 = .ok (.iconst 3, 1) := ze_6 zcode_1230
theorem dl_1231 : decode code 1231 = .ok (.iadd, 1) := ze_96 zcode_1231
theorem dl_1232 : decode code 1232 = .ok (.iaload, 1) := ze_46 zcode_1232
theorem dl_1233 : decode code 1233 = .ok (.invokevirtual 158, 3) := ze_182 zcode_1233 rfl
theorem dl_1236 : decode code 1236 = .ok (.pop, 1) := ze_87 zcode_1236
theorem dl_1237 : decode code 1237 = .ok (.goto 75, 3) := ze_167 zcode_1237 (u := 75) rfl (Nat.le_of_ble_eq_true rfl)
theorem dl_1240 : decode code 1240 = .ok (.aload_n 1, 1) := ze_43 zcode_1240
theorem dl_1241 : decode code 1241 = .ok (.invokevirtual 159, 3) := ze_182 zcode_1241 rfl
theorem dl_1244 : decode code 1244 = .ok (.pop, 1) := ze_87 zcode_1244
theorem dl_1245 : decode code 1245 = .ok (.aload_n 2, 1) := ze_44 zcode_1245
theorem dl_1246 : decode code 1246 = .ok (.invokevirtual 162, 3) := ze_182 zcode_1246 rfl
theorem dl_1249 : decode code 1249 = .ok (.pop, 1) := ze_87 zcode_1249
theorem dl_1250 : decode code 1250 = .ok (.goto 62, 3) := ze_167 zcode_1250 (u := 62) rfl (Nat.le_of_ble_eq_true rfl)
theorem dl_1253 : decode code 1253 = .ok (.aload_n 1, 1) := ze_43 zcode_1253
theorem dl_1254 : decode code 1254 = .ok (.aload_n 0, 1) := ze_42 zcode_1254
theorem dl_1255 : decode code 1255 = .ok (.iload_n 3, 1) := ze_29 zcode_1255
theorem dl_1256 : decode code 1256 = .ok (.iconst 1, 1) := ze_4 zcode_1256
theorem dl_1257 : decode code 1257 = .ok (.iadd, 1) := ze_96 zcode_1257
theorem dl_1258 : decode code 1258 = .ok (.iaload, 1) := ze_46 zcode_1258
theorem dl_1259 : decode code 1259 = .ok (.invokevirtual 163, 3) := ze_182 zcode_1259 rfl
theorem dl_1262 : decode code 1262 = .ok (.pop, 1) := ze_87 zcode_1262
theorem dl_1263 : decode code 1263 = .ok (.aload_n 2, 1) := ze_44 zcode_1263
theorem dl_1264 : decode code 1264 = .ok (.aload_n 0, 1) := ze_42 zcode_1264
theorem dl_1265 : decode code 1265 = .ok (.iload_n 3, 1) := ze_29 zcode_1265
theorem dl_1266 : decode code 1266 = .ok (.iconst 1, 1) := ze_4 zcode_1266
theorem dl_1267 : decode code 1267 = .ok (.iadd, 1) := ze_96 zcode_1267
theorem dl_1268 : decode code 1268 = .ok (.iaload, 1) := ze_46 zcode_1268
theorem dl_1269 : decode code 1269 = .ok (.invokevirtual 166, 3) := ze_182 zcode_1269 rfl
theorem dl_1272 : decode code 1272 = .ok (.pop, 1) := ze_87 zcode_1272
theorem dl_1273 : decode code 1273 = .ok (.goto 39, 3) := ze_167 zcode_1273 (u := 39) rfl (Nat.le_of_ble_eq_true rfl)
theorem dl_1276 : decode code 1276 = .ok (.aload_n 1, 1) := ze_43 zcode_1276
theorem dl_1277 : decode code 1277 = .ok (.invokevirtual 167, 3) := ze_182 zcode_1277 rfl
theorem dl_1280 : decode code 1280 = .ok (.pop, 1) := ze_87 zcode_1280
theorem dl_1281 : decode code 1281 = .ok (.aload_n 2, 1) := ze_44 zcode_1281
theorem dl_1282 : decode code 1282 = .ok (.invokevirtual 170, 3) := ze_182 zcode_1282 rfl
theorem dl_1285 : decode code 1285 = .ok (.pop, 1) := ze_87 zcode_1285
theorem dl_1286 : decode code 1286 = .ok (.goto 26, 3) := ze_167 zcode_1286 (u := 26) rfl (Nat.le_of_ble_eq_true rfl)
theorem dl_1289 : decode code 1289 = .ok (.aload_n 1, 1) := ze_43 zcode_1289
theorem dl_1290 : decode code 1290 = .ok (.aload_n 0, 1) := ze_42 zcode_1290
theorem dl_1291 : decode code 1291 = .ok (.iload_n 3, 1) := ze_29 zcode_1291
theorem dl_1292 : decode code 1292 = .ok (.iconst 1, 1) := ze_4 zcode_1292
theorem dl_1293 : decode code 1293 = .ok (.iadd, 1) := ze_96 zcode_1293
theorem dl_1294 : decode code 1294 = .ok (.iaload, 1) := ze_46 zcode_1294
theorem dl_1295 : decode code 1295 = .ok (.invokevirtual 171, 3) := ze_182 zcode_1295 rfl
theorem dl_1298 : decode code 1298 = .ok (.pop, 1) := ze_87 zcode_1298
theorem dl_1299 : decode code 1299 = .ok (.aload_n 2, 1) := ze_44 zcode_1299
theorem dl_1300 : decode code 1300 = .ok (.aload_n 0, 1) := ze_42 zcode_1300
theorem dl_1301 : decode code 1301 = .ok (.iload_n 3, 1) := ze_29 zcode_1301
theorem dl_1302 : decode code 1302 = .ok (.iconst 1, 1) := ze_4 zcode_1302
theorem dl_1303 : decode code 1303 = .ok (.iadd, 1) := ze_96 zcode_1303
theorem dl_1304 : decode code 1304 = .ok (.iaload, 1) := ze_46 zcode_1304
theorem dl_1305 : decode code 1305 = .ok (.invokevirtual 174, 3) := ze_182 zcode_1305 rfl
theorem dl_1308 : decode code 1308 = .ok (.pop, 1) := ze_87 zcode_1308
theorem dl_1309 : decode code 1309 = .ok (.goto 3, 3) := ze_167 zcode_1309 (u := 3) rfl (Nat.le_of_ble_eq_true rfl)
theorem dl_1312 : decode code 1312 = .ok (.iinc 3 6, 3) := ze_132 zcode_1312 rfl (zgp (k := 8) (Nat.le_of_ble_eq_true rfl))
theorem dl_1315 : decode code 1315 = .ok (.goto (-1297), 3) := ze_167n zcode_1315 (u := 1297) rfl (Nat.le_of_ble_eq_true rfl)
theorem dl_1318 : decode code 1318 = .ok (.iconst 1, 1) := ze_4 zcode_1318
theorem dl_1319 : decode code 1319 = .ok (.ireturn, 1) := ze_172 zcode_1319
