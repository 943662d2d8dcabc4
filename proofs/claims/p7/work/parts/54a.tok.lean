/-! TOKENS: what a text is cut into; words as numbers on both sides -/
def isL (c : Int) : Prop := 97 ≤ c ∧ c ≤ 122
def isD (c : Int) : Prop := 48 ≤ c ∧ c ≤ 57
def isB (c : Int) : Prop := c = 32 ∨ c = 10
def pk5 (T : Nat → Int) (a : Nat) : Nat → Int
  | 0 => 0
  | n + 1 => pk5 T a n + (T (a + n) - 96) * 32 ^ n
def pk8 (T : Nat → Int) (a : Nat) : Nat → Int
  | 0 => 0
  | n + 1 => 256 * pk8 T a n + T (a + n)
def nu10 (T : Nat → Int) (a : Nat) : Nat → Int
  | 0 => 0
  | n + 1 => 10 * nu10 T a n + (T (a + n) - 48)
/-- out of one form of a word the other -/
def c8g : Nat → Int → Int → Int
  | 0, _, w => w
  | k + 1, v, w => if v = 0 then w else c8g k (v / 32) (256 * w + (96 + v % 32))
def c5g : Nat → Int → Int → Int
  | 0, _, v => v
  | k + 1, w, v => if w = 0 then v else c5g k (w / 256) (32 * v + (w % 256 - 96))
def c8 (v : Int) : Int := c8g 6 v 0
def c5 (w : Int) : Int := c5g 6 w 0
def w8 (T : Nat → Int) : Nat → Nat → Int → Int
  | _, 0, w => w
  | a, n + 1, w => w8 T (a + 1) n (256 * w + T a)
theorem w8_last (T : Nat → Int) : ∀ (n a : Nat) (w : Int), w8 T a (n + 1) w = 256 * w8 T a n w + T (a + n) := by
  intro n
  induction n with
  | zero => intro a w; rfl
  | succ n ih =>
    intro a w
    have e1 : w8 T a (n + 1 + 1) w = w8 T (a + 1) (n + 1) (256 * w + T a) := rfl
    have e2 : w8 T a (n + 1) w = w8 T (a + 1) n (256 * w + T a) := rfl
    rw [e1, e2, ih, show a + 1 + n = a + (n + 1) by omega]
theorem w8_pk (T : Nat → Int) (a : Nat) : ∀ n : Nat, w8 T a n 0 = pk8 T a n := by
  intro n
  induction n with
  | zero => rfl
  | succ n ih =>
    rw [w8_last, ih]
    rfl
theorem pk5_hd (T : Nat → Int) : ∀ (n a : Nat), pk5 T a (n + 1) = (T a - 96) + 32 * pk5 T (a + 1) n := by
  intro n
  induction n with
  | zero =>
    intro a
    have e : pk5 T a (0 + 1) = 0 + (T (a + 0) - 96) * 32 ^ 0 := rfl
    have e2 : pk5 T (a + 1) 0 = 0 := rfl
    rw [e, e2, Nat.add_zero, Int.pow_zero]
    omega
  | succ n ih =>
    intro a
    have e1 : pk5 T a (n + 1 + 1) = pk5 T a (n + 1) + (T (a + (n + 1)) - 96) * 32 ^ (n + 1) := rfl
    have e2 : pk5 T (a + 1) (n + 1) = pk5 T (a + 1) n + (T (a + 1 + n) - 96) * 32 ^ n := rfl
    rw [e1, e2, ih, show a + 1 + n = a + (n + 1) by omega, Int.pow_succ, Int.mul_add, ← Int.mul_assoc, Int.mul_comm ((T (a + (n + 1)) - 96) * 32 ^ n) 32]
    omega
theorem pk5_nn {T : Nat → Int} : ∀ (n a : Nat), (∀ k, a ≤ k → k < a + n → isL (T k)) → 0 ≤ pk5 T a n ∧ (0 < n → 0 < pk5 T a n) := by
  intro n
  induction n with
  | zero => intro a h; exact ⟨Int.le_refl _, fun h => absurd h (by decide)⟩
  | succ n ih =>
    intro a h
    have h1 := ih (a + 1) (fun k h1 h2 => h k (by omega) (by omega))
    have h2 := h a (Nat.le_refl _) (by omega)
    unfold isL at h2
    rw [pk5_hd]
    omega
theorem c8_w8 {T : Nat → Int} : ∀ (k n a : Nat) (w : Int), n ≤ k → (∀ k, a ≤ k → k < a + n → isL (T k)) → c8g k (pk5 T a n) w = w8 T a n w := by
  intro k
  induction k with
  | zero =>
    intro n a w hn h
    have e : n = 0 := by omega
    subst e
    rfl
  | succ k ih =>
    intro n a w hn h
    cases n with
    | zero =>
      show (if (0 : Int) = 0 then w else _) = w
      rw [if_pos rfl]
    | succ n =>
      have h1 := pk5_nn n (a + 1) (fun k h1 h2 => h k (by omega) (by omega))
      have h2 := h a (Nat.le_refl _) (by omega)
      unfold isL at h2
      show (if pk5 T a (n + 1) = 0 then w else c8g k (pk5 T a (n + 1) / 32) (256 * w + (96 + pk5 T a (n + 1) % 32))) = w8 T (a + 1) n (256 * w + T a)
      rw [pk5_hd, if_neg (by omega), show (T a - 96 + 32 * pk5 T (a + 1) n) / 32 = pk5 T (a + 1) n by omega, show 96 + (T a - 96 + 32 * pk5 T (a + 1) n) % 32 = T a by omega]
      exact ih n (a + 1) _ (by omega) (fun k h1 h2 => h k (by omega) (by omega))
theorem pk8_nn {T : Nat → Int} (a : Nat) : ∀ (n : Nat), (∀ k, a ≤ k → k < a + n → isL (T k)) → 0 ≤ pk8 T a n ∧ (0 < n → 0 < pk8 T a n) := by
  intro n
  induction n with
  | zero => intro h; exact ⟨Int.le_refl _, fun h => absurd h (by decide)⟩
  | succ n ih =>
    intro h
    have h1 := ih (fun k h1 h2 => h k (by omega) (by omega))
    have h2 := h (a + n) (by omega) (by omega)
    unfold isL at h2
    have e : pk8 T a (n + 1) = 256 * pk8 T a n + T (a + n) := rfl
    omega
theorem c5_v5 {T : Nat → Int} (a : Nat) : ∀ (k n : Nat) (v : Int), n ≤ k → (∀ k, a ≤ k → k < a + n → isL (T k)) → c5g k (pk8 T a n) v = pk5 T a n + 32 ^ n * v := by
  intro k
  induction k with
  | zero =>
    intro n v hn h
    have e : n = 0 := by omega
    subst e
    show v = 0 + 32 ^ 0 * v
    rw [Int.pow_zero]
    omega
  | succ k ih =>
    intro n v hn h
    cases n with
    | zero =>
      show (if (0 : Int) = 0 then v else _) = 0 + 32 ^ 0 * v
      rw [if_pos rfl, Int.pow_zero]
      omega
    | succ n =>
      have h1 := pk8_nn a n (fun k h1 h2 => h k (by omega) (by omega))
      have h2 := h (a + n) (by omega) (by omega)
      unfold isL at h2
      show (if 256 * pk8 T a n + T (a + n) = 0 then v else c5g k ((256 * pk8 T a n + T (a + n)) / 256) (32 * v + ((256 * pk8 T a n + T (a + n)) % 256 - 96))) = pk5 T a n + (T (a + n) - 96) * 32 ^ n + 32 ^ (n + 1) * v
      rw [if_neg (by omega), show (256 * pk8 T a n + T (a + n)) / 256 = pk8 T a n by omega, show (256 * pk8 T a n + T (a + n)) % 256 = T (a + n) by omega, ih n _ (by omega) (fun k h1 h2 => h k (by omega) (by omega)), Int.pow_succ, Int.mul_add, Int.mul_assoc, Int.mul_comm (32 ^ n) (T (a + n) - 96)]
      omega
/-- a word of at most 6 letters: each form out of the other -/
theorem c8_pk {T : Nat → Int} {a n : Nat} (hn : n ≤ 6) (h : ∀ k, a ≤ k → k < a + n → isL (T k)) : c8 (pk5 T a n) = pk8 T a n := (c8_w8 6 n a 0 hn h).trans (w8_pk T a n)
theorem c5_pk {T : Nat → Int} {a n : Nat} (hn : n ≤ 6) (h : ∀ k, a ≤ k → k < a + n → isL (T k)) : c5 (pk8 T a n) = pk5 T a n := by
  have := c5_v5 a 6 n 0 hn h
  rw [Int.mul_zero, Int.add_zero] at this
  exact this
/-- the bytes that are signs; the kinds of bytes: 0 blank, 2 letter, 4 digit, 5 sign, 1 none of these -/
def sgL : List Int := [59, 91, 93, 40, 41, 60, 62, 61, 43, 45, 42, 47, 37, 44]
def kof (c : Int) : Int := if c = 32 ∨ c = 10 then 0 else if 97 ≤ c ∧ c ≤ 122 then 2 else if 48 ≤ c ∧ c ≤ 57 then 4 else if sgL.contains c then 5 else 1
def run (r : Int) : Prop := r = 2 ∨ r = 4
def mxl (r : Int) : Nat := if r = 2 then 6 else 4
def pkr (r : Int) (T : Nat → Int) (a n : Nat) : Int := if r = 2 then pk5 T a n else nu10 T a n
def adjT (T : Nat → Int) (a : Nat) : Prop := 0 < a ∧ run (kof (T (a - 1)))
theorem kof_2 {c : Int} (h : kof c = 2) : isL c := by
  unfold kof at h
  unfold isL
  split at h
  · omega
  · split at h
    · omega
    · split at h
      · omega
      · split at h <;> omega
theorem kof_4 {c : Int} (h : kof c = 4) : isD c := by
  unfold kof at h
  unfold isD
  split at h
  · omega
  · split at h
    · omega
    · split at h
      · omega
      · split at h <;> omega
theorem kof_0 {c : Int} : kof c = 0 ↔ (c = 32 ∨ c = 10) := by
  unfold kof
  constructor
  · intro h
    split at h
    · assumption
    · split at h
      · omega
      · split at h
        · omega
        · split at h <;> omega
  · intro h
    rw [if_pos h]
theorem kof_L {c : Int} (h : 97 ≤ c ∧ c ≤ 122) : kof c = 2 := by
  unfold kof
  rw [if_neg (by omega), if_pos h]
theorem kof_D {c : Int} (h : 48 ≤ c ∧ c ≤ 57) : kof c = 4 := by
  unfold kof
  rw [if_neg (by omega), if_neg (by omega), if_pos h]
/-- the i-th token, cut out of the text behind p, ends ahead of q -/
def TokAt (T : Nat → Int) (L : Nat) (K V S : Nat → Int) (i p q : Nat) : Prop :=
  ∃ a : Nat, p ≤ a ∧ a ≤ L ∧ (∀ k, p ≤ k → k < a → kof (T k) = 0) ∧ S i = (a : Int) ∧
    (a = L ∧ K i = 0 ∧ V i = (L : Int) ∧ q = L ∨
     a < L ∧ kof (T a) = 5 ∧ K i = 5 ∧ V i = T a ∧ q = a + 1 ∨
     a < L ∧ kof (T a) = 1 ∧ K i = 1 ∧ V i = (a : Int) ∧ q = a + 1 ∨
     a < L ∧ run (kof (T a)) ∧ adjT T a ∧ K i = 1 ∧ V i = (a : Int) ∨
     (¬ adjT T a ∧ ∃ r, run r ∧ a < q ∧ q ≤ L ∧ q ≤ a + mxl r ∧ (∀ k, a ≤ k → k < q → kof (T k) = r) ∧ (q < L → kof (T q) ≠ r) ∧ K i = r ∧ V i = pkr r T a (q - a)) ∨
     (¬ adjT T a ∧ ∃ r, run r ∧ a + mxl r < L ∧ (∀ k, a ≤ k → k ≤ a + mxl r → kof (T k) = r) ∧ K i = 1 ∧ V i = (a : Int) + (mxl r : Int)))
/-- the first c tokens of a text -/
def TkC (T : Nat → Int) (L : Nat) (K V S : Nat → Int) (P : Nat → Nat) (c : Nat) : Prop := P 0 = 0 ∧ (∀ i, i < c → TokAt T L K V S i (P i) (P (i + 1))) ∧ (∀ i, i < c → K i ≠ 0 ∧ K i ≠ 1)
/-- all tokens of a text, the last one END or BAD -/
def Toks (T : Nat → Int) (L : Nat) (K V S : Nat → Int) (P : Nat → Nat) (e : Nat) : Prop := TkC T L K V S P e ∧ TokAt T L K V S e (P e) (P (e + 1)) ∧ (K e = 0 ∨ K e = 1)
theorem TokAt.congr {T : Nat → Int} {L : Nat} {K V S K' V' S' : Nat → Int} {i p q : Nat} (h : TokAt T L K V S i p q) (hK : K' i = K i) (hV : V' i = V i) (hS : S' i = S i) : TokAt T L K' V' S' i p q := by
  unfold TokAt at h ⊢
  rw [hK, hV, hS]
  exact h
theorem TkC.congr {T : Nat → Int} {L : Nat} {K V S K' V' S' : Nat → Int} {P : Nat → Nat} {c : Nat} (h : TkC T L K V S P c) (f : ∀ i, i < c → K' i = K i ∧ V' i = V i ∧ S' i = S i) : TkC T L K' V' S' P c := by
  obtain ⟨h0, h1, h2⟩ := h
  refine ⟨h0, fun i hi => (h1 i hi).congr (f i hi).1 (f i hi).2.1 (f i hi).2.2, fun i hi => ?_⟩
  rw [(f i hi).1]
  exact h2 i hi
/-- one token more -/
theorem TkC.add {T : Nat → Int} {L : Nat} {K V S : Nat → Int} {P : Nat → Nat} {c q : Nat} (h : TkC T L K V S P c) (t : TokAt T L K V S c (P c) q) (k0 : K c ≠ 0) (k1 : K c ≠ 1) : TkC T L K V S (fun i => if i = c + 1 then q else P i) (c + 1) := by
  obtain ⟨h0, h1, h2⟩ := h
  refine ⟨?_, fun i hi => ?_, fun i hi => ?_⟩
  · show (if 0 = c + 1 then q else P 0) = 0
    rw [if_neg (by omega)]
    exact h0
  · show TokAt T L K V S i (if i = c + 1 then q else P i) (if i + 1 = c + 1 then q else P (i + 1))
    rw [if_neg (by omega)]
    by_cases z : i = c
    · subst z
      rw [if_pos rfl]
      exact t
    · rw [if_neg (by omega)]
      exact h1 i (by omega)
  · by_cases z : i = c
    · subst z
      exact ⟨k0, k1⟩
    · exact h2 i (by omega)
theorem TkC.fin {T : Nat → Int} {L : Nat} {K V S : Nat → Int} {P : Nat → Nat} {c q : Nat} (h : TkC T L K V S P c) (t : TokAt T L K V S c (P c) q) (k : K c = 0 ∨ K c = 1) : ∃ P', Toks T L K V S P' c := by
  refine ⟨fun i => if i = c + 1 then q else P i, ⟨?_, fun i hi => ?_, h.2.2⟩, ?_, k⟩
  · show (if 0 = c + 1 then q else P 0) = 0
    rw [if_neg (by omega)]
    exact h.1
  · show TokAt T L K V S i (if i = c + 1 then q else P i) (if i + 1 = c + 1 then q else P (i + 1))
    rw [if_neg (by omega), if_neg (by omega)]
    exact h.2.1 i hi
  · show TokAt T L K V S c (if c = c + 1 then q else P c) (if c + 1 = c + 1 then q else P (c + 1))
    rw [if_neg (by omega), if_pos rfl]
    exact t
/-- where the cutting stands: c tokens, the last one open if r isn't 0 -/
def SI (T : Nat → Int) (L : Nat) (K V S : Nat → Int) (c p : Nat) (r z : Int) : Prop := c ≤ p ∧ p ≤ L ∧
  (r = 0 ∧ ¬ adjT T p ∧ (∃ P, TkC T L K V S P c ∧ P c ≤ p ∧ ∀ k, P c ≤ k → k < p → kof (T k) = 0) ∨
   run r ∧ ∃ P d a, c = d + 1 ∧ TkC T L K V S P d ∧ P d ≤ a ∧ (∀ k, P d ≤ k → k < a → kof (T k) = 0) ∧ ¬ adjT T a ∧ a < p ∧ S d = (a : Int) ∧ z = (p : Int) - a ∧ p ≤ a + mxl r ∧ (∀ k, a ≤ k → k < p → kof (T k) = r) ∧ K d = r ∧ V d = pkr r T a (p - a))
/-- what was open is closed -/
theorem SI.close {T : Nat → Int} {L : Nat} {K V S : Nat → Int} {c p : Nat} {r z : Int} (h : SI T L K V S c p r z) (n : p < L → kof (T p) ≠ r) : ∃ P, TkC T L K V S P c ∧ P c ≤ p ∧ (∀ k, P c ≤ k → k < p → kof (T k) = 0) := by
  obtain ⟨h0, hL, h | ⟨hr, P, d, a, hc, t, t1, t2, t3, t4, t5, t6, t7, t8, t9, t10⟩⟩ := h
  · exact h.2.2
  · subst hc
    have k01 : K d ≠ 0 ∧ K d ≠ 1 := by
      rw [t9]
      rcases hr with e | e <;> subst e <;> exact ⟨by decide, by decide⟩
    have tk : TokAt T L K V S d (P d) p := ⟨a, t1, by omega, t2, t5, Or.inr (Or.inr (Or.inr (Or.inr (Or.inl ⟨t3, r, hr, t4, hL, t7, t8, n, t9, t10⟩))))⟩
    refine ⟨_, t.add tk k01.1 k01.2, ?_, fun k h1 h2 => ?_⟩
    · show (if d + 1 = d + 1 then p else P (d + 1)) ≤ p
      rw [if_pos rfl]
      exact Nat.le_refl _
    · have h1' : (if d + 1 = d + 1 then p else P (d + 1)) ≤ k := h1
      rw [if_pos rfl] at h1'
      omega
/-- the cells change at c alone -/
theorem SI.up {T : Nat → Int} {L : Nat} {K V S K' V' S' : Nat → Int} {c : Nat} {P : Nat → Nat} (h : TkC T L K V S P c) (f : ∀ i, i ≠ c → K' i = K i ∧ V' i = V i ∧ S' i = S i) : TkC T L K' V' S' P c := h.congr fun i hi => f i (by omega)
section SCN
variable {T : Nat → Int} {L : Nat} {K V S K' V' S' : Nat → Int} {c p : Nat} {r z : Int}
/-- the end -/
theorem SI.s_end (h : SI T L K V S c p r z) (e : p = L) (f : ∀ i, i ≠ c → K' i = K i ∧ V' i = V i ∧ S' i = S i) (hK : K' c = 0) (hV : V' c = (L : Int)) (hS : S' c = (L : Int)) : ∃ P, Toks T L K' V' S' P c := by
  obtain ⟨P, t, t1, t2⟩ := h.close (fun q => by omega)
  exact (SI.up t f).fin (q := L) ⟨L, by omega, Nat.le_refl _, fun k h1 h2 => t2 k h1 (by omega), hS, Or.inl ⟨rfl, hK, hV, rfl⟩⟩ (Or.inl hK)
/-- a byte that is none -/
theorem SI.s_bad (h : SI T L K V S c p r z) (hp : p < L) (hk : kof (T p) = 1) (hr : r = 0 ∨ run r) (f : ∀ i, i ≠ c → K' i = K i ∧ V' i = V i ∧ S' i = S i) (hK : K' c = 1) (hV : V' c = (p : Int)) (hS : S' c = (p : Int)) : ∃ P, Toks T L K' V' S' P c := by
  obtain ⟨P, t, t1, t2⟩ := h.close (fun q => by rw [hk]; unfold run at hr; omega)
  exact (SI.up t f).fin (q := p + 1) ⟨p, t1, by omega, t2, hS, Or.inr (Or.inr (Or.inl ⟨hp, hk, hK, hV, rfl⟩))⟩ (Or.inr hK)
/-- a word behind a number, a number behind a word -/
theorem SI.s_adj (h : SI T L K V S c p r z) (hp : p < L) (hk : run (kof (T p))) (hr : run r) (hne : kof (T p) ≠ r) (f : ∀ i, i ≠ c → K' i = K i ∧ V' i = V i ∧ S' i = S i) (hK : K' c = 1) (hV : V' c = (p : Int)) (hS : S' c = (p : Int)) : ∃ P, Toks T L K' V' S' P c := by
  obtain ⟨P, t, t1, t2⟩ := h.close (fun q => hne)
  have ad : adjT T p := by
    obtain ⟨h0, hL, h | ⟨-, P, d, a, hc, t, t1, t2, t3, t4, t5, t6, t7, t8, t9, t10⟩⟩ := h
    · exfalso
      unfold run at hr
      omega
    · refine ⟨by omega, ?_⟩
      rw [t8 (p - 1) (by omega) (by omega)]
      exact hr
  exact (SI.up t f).fin (q := p + 1) ⟨p, t1, by omega, t2, hS, Or.inr (Or.inr (Or.inr (Or.inl ⟨hp, hk, ad, hK, hV⟩)))⟩ (Or.inr hK)
/-- a blank -/
theorem SI.s_blank (h : SI T L K V S c p r z) (hp : p < L) (hk : kof (T p) = 0) (hr : r = 0 ∨ run r) {z' : Int} : SI T L K V S c (p + 1) 0 z' := by
  by_cases e : r = 0
  · obtain ⟨h0, hL, h | ⟨hr, -⟩⟩ := h
    · obtain ⟨-, h1, P, t, t1, t2⟩ := h
      refine ⟨by omega, by omega, Or.inl ⟨rfl, ?_, P, t, by omega, fun k h1 h2 => ?_⟩⟩
      · rintro ⟨-, q⟩
        rw [Nat.add_sub_cancel, hk] at q
        unfold run at q
        omega
      · by_cases w : k = p
        · rw [w]
          exact hk
        · exact t2 k h1 (by omega)
    · unfold run at hr
      omega
  · have c0 := h.1
    obtain ⟨P, t, t1, t2⟩ := h.close (fun q => by rw [hk]; unfold run at hr; omega)
    refine ⟨by omega, by omega, Or.inl ⟨rfl, ?_, P, t, by omega, fun k h1 h2 => ?_⟩⟩
    · rintro ⟨-, q⟩
      rw [Nat.add_sub_cancel, hk] at q
      unfold run at q
      omega
    · by_cases w : k = p
      · rw [w]
        exact hk
      · exact t2 k h1 (by omega)
/-- a sign -/
theorem SI.s_sign (h : SI T L K V S c p r z) (hp : p < L) (hk : kof (T p) = 5) (hr : r = 0 ∨ run r) (f : ∀ i, i ≠ c → K' i = K i ∧ V' i = V i ∧ S' i = S i) (hK : K' c = 5) (hV : V' c = T p) (hS : S' c = (p : Int)) {z' : Int} : SI T L K' V' S' (c + 1) (p + 1) 0 z' := by
  have c0 := h.1
  obtain ⟨P, t, t1, t2⟩ := h.close (fun q => by rw [hk]; unfold run at hr; omega)
  have tk : TokAt T L K' V' S' c (P c) (p + 1) := ⟨p, t1, by omega, t2, hS, Or.inr (Or.inl ⟨hp, hk, hK, hV, rfl⟩)⟩
  refine ⟨by omega, by omega, Or.inl ⟨rfl, ?_, _, (SI.up t f).add tk (by rw [hK]; decide) (by rw [hK]; decide), ?_, fun k h1 h2 => ?_⟩⟩
  · rintro ⟨-, q⟩
    rw [Nat.add_sub_cancel, hk] at q
    unfold run at q
    omega
  · show (if c + 1 = c + 1 then p + 1 else P (c + 1)) ≤ p + 1
    rw [if_pos rfl]
    exact Nat.le_refl _
  · have h1' : (if c + 1 = c + 1 then p + 1 else P (c + 1)) ≤ k := h1
    rw [if_pos rfl] at h1'
    omega
theorem pkr_1 {r : Int} {T : Nat → Int} {a : Nat} (hr : run r) : pkr r T a 1 = T a - (if r = 2 then 96 else 48) := by
  unfold pkr
  rcases hr with e | e
  · subst e
    rw [if_pos rfl, if_pos rfl]
    show 0 + (T (a + 0) - 96) * 32 ^ 0 = T a - 96
    rw [Int.pow_zero, Nat.add_zero]
    omega
  · subst e
    rw [if_neg (by decide), if_neg (by decide)]
    show 10 * 0 + (T (a + 0) - 48) = T a - 48
    rw [Nat.add_zero]
    omega
/-- a word, a number begins -/
theorem SI.s_new (h : SI T L K V S c p 0 z) (hp : p < L) (hr : run r) (hk : kof (T p) = r) (f : ∀ i, i ≠ c → K' i = K i ∧ V' i = V i ∧ S' i = S i) (hK : K' c = r) (hV : V' c = T p - (if r = 2 then 96 else 48)) (hS : S' c = (p : Int)) : SI T L K' V' S' (c + 1) (p + 1) r 1 := by
  obtain ⟨h0, hL, h | ⟨q, -⟩⟩ := h
  · obtain ⟨-, h1, P, t, t1, t2⟩ := h
    refine ⟨by omega, by omega, Or.inr ⟨hr, P, c, p, rfl, SI.up t f, t1, t2, h1, by omega, hS, by omega, ?_, fun k h1 h2 => ?_, hK, ?_⟩⟩
    · unfold mxl
      split <;> omega
    · rw [show k = p by omega]
      exact hk
    · rw [show p + 1 - p = 1 by omega, pkr_1 hr]
      exact hV
  · unfold run at q
    omega
/-- one more letter, digit -/
theorem SI.s_more (h : SI T L K V S c p r z) (hp : p < L) (hr : run r) (hk : kof (T p) = r) (hz : z < (mxl r : Int)) (hV : ∀ d a : Nat, c = d + 1 → z = (p : Int) - a → V d = pkr r T a (p - a) → V' d = pkr r T a (p + 1 - a)) (fK : ∀ i, K' i = K i) (fV : ∀ i, i + 1 ≠ c → V' i = V i) (fS : ∀ i, S' i = S i) : SI T L K' V' S' c (p + 1) r (z + 1) := by
  obtain ⟨h0, hL, h | ⟨-, P, d, a, hc, t, t1, t2, t3, t4, t5, t6, t7, t8, t9, t10⟩⟩ := h
  · exfalso
    unfold run at hr
    omega
  · refine ⟨by omega, by omega, Or.inr ⟨hr, P, d, a, hc, t.congr (fun i hi => ⟨fK i, fV i (by omega), fS i⟩), t1, t2, t3, by omega, (fS d).trans t5, by omega, by omega, fun k h1 h2 => ?_, (fK d).trans t9, hV d a hc t6 t10⟩⟩
    by_cases w : k = p
    · rw [w]
      exact hk
    · exact t8 k h1 (by omega)
/-- one letter, digit too many -/
theorem SI.s_long (h : SI T L K V S c p r z) (hp : p < L) (hr : run r) (hk : kof (T p) = r) (hz : (mxl r : Int) ≤ z) (fK : ∀ i, i + 1 ≠ c → K' i = K i) (fV : ∀ i, i + 1 ≠ c → V' i = V i) (fS : ∀ i, S' i = S i) (hK : ∀ d : Nat, c = d + 1 → K' d = 1) (hV : ∀ d : Nat, c = d + 1 → V' d = (p : Int)) : ∃ d P, c = d + 1 ∧ Toks T L K' V' S' P d := by
  obtain ⟨h0, hL, h | ⟨-, P, d, a, hc, t, t1, t2, t3, t4, t5, t6, t7, t8, t9, t10⟩⟩ := h
  · exfalso
    unfold run at hr
    omega
  · have ep : p = a + mxl r := by omega
    obtain ⟨P', tk⟩ := (t.congr (K' := K') (V' := V') (S' := S') (fun i hi => ⟨fK i (by omega), fV i (by omega), fS i⟩)).fin (q := p) ⟨a, t1, by omega, t2, (fS d).trans t5, Or.inr (Or.inr (Or.inr (Or.inr (Or.inr ⟨t3, r, hr, by omega, fun k h1 h2 => (by
      by_cases w : k = p
      · rw [w]
        exact hk
      · exact t8 k h1 (by omega)), hK d hc, (hV d hc).trans (by omega)⟩))))⟩ (Or.inr (hK d hc))
    exact ⟨d, P', hc, tk⟩
end SCN
theorem kof_sg {c : Int} (h : ¬(c = 32 ∨ c = 10)) (hL : ¬(97 ≤ c ∧ c ≤ 122)) (hD : ¬(48 ≤ c ∧ c ≤ 57)) : kof c = if sgL.contains c then 5 else 1 := by
  unfold kof
  rw [if_neg h, if_neg hL, if_neg hD]
theorem pk5_lt {T : Nat → Int} : ∀ (n a : Nat), (∀ k, a ≤ k → k < a + n → isL (T k)) → pk5 T a n < 32 ^ n := by
  intro n
  induction n with
  | zero => intro a h; show (0 : Int) < 32 ^ 0; decide
  | succ n ih =>
    intro a h
    have h1 := ih a (fun k h1 h2 => h k h1 (by omega))
    have h2 := h (a + n) (by omega) (by omega)
    unfold isL at h2
    have e : pk5 T a (n + 1) = pk5 T a n + (T (a + n) - 96) * 32 ^ n := rfl
    have hp : (0 : Int) ≤ 32 ^ n := Int.pow_nonneg (by decide)
    have h3 : (T (a + n) - 96) * 32 ^ n ≤ 26 * 32 ^ n := Int.mul_le_mul_of_nonneg_right (by omega) hp
    rw [e, Int.pow_succ]
    omega
theorem nu10_b {T : Nat → Int} {a : Nat} : ∀ n : Nat, (∀ k, a ≤ k → k < a + n → isD (T k)) → 0 ≤ nu10 T a n ∧ nu10 T a n < 10 ^ n := by
  intro n
  induction n with
  | zero => intro h; exact ⟨Int.le_refl _, by show (0 : Int) < 10 ^ 0; decide⟩
  | succ n ih =>
    intro h
    have h1 := ih (fun k h1 h2 => h k h1 (by omega))
    have h2 := h (a + n) (by omega) (by omega)
    unfold isD at h2
    have e : nu10 T a (n + 1) = 10 * nu10 T a n + (T (a + n) - 48) := rfl
    rw [e, Int.pow_succ]
    omega
/-- a token is put down -/
def addC (s : zF) (k v p : Int) : zF := zup (zup (zup (zup s 4 (s 2 6).toNat k) 5 (s 2 6).toNat v) 6 (s 2 6).toNat p) 2 6 (s 2 6 + 1)
theorem addC_k {s : zF} {k v p : Int} : addC s k v p 4 (s 2 6).toNat = k := by
  unfold addC
  rw [zup_ne (Or.inl (by decide)), zup_ne (Or.inl (by decide)), zup_ne (Or.inl (by decide)), zup_eq]
theorem addC_v {s : zF} {k v p : Int} : addC s k v p 5 (s 2 6).toNat = v := by
  unfold addC
  rw [zup_ne (Or.inl (by decide)), zup_ne (Or.inl (by decide)), zup_eq]
theorem addC_p {s : zF} {k v p : Int} : addC s k v p 6 (s 2 6).toNat = p := by
  unfold addC
  rw [zup_ne (Or.inl (by decide)), zup_eq]
theorem addC_c {s : zF} {k v p : Int} : addC s k v p 2 6 = s 2 6 + 1 := zup_eq
theorem addC_o {s : zF} {k v p : Int} : ∀ i, i ≠ (s 2 6).toNat → addC s k v p 4 i = s 4 i ∧ addC s k v p 5 i = s 5 i ∧ addC s k v p 6 i = s 6 i := by
  intro i hi
  unfold addC
  refine ⟨?_, ?_, ?_⟩
  · rw [zup_ne (Or.inl (by decide)), zup_ne (Or.inl (by decide)), zup_ne (Or.inl (by decide)), zup_ne (Or.inr hi)]
  · rw [zup_ne (Or.inl (by decide)), zup_ne (Or.inl (by decide)), zup_ne (Or.inr hi), zup_ne (Or.inl (by decide))]
  · rw [zup_ne (Or.inl (by decide)), zup_ne (Or.inr hi), zup_ne (Or.inl (by decide)), zup_ne (Or.inl (by decide))]
/-- what the cutting gives -/
def SCAN (T : Nat → Int) (L : Nat) (s : zF) : Prop := ∃ (e : Nat) (P : Nat → Nat), s 2 6 = (e : Int) + 1 ∧ Toks T L (s 4) (s 5) (s 6) P e
