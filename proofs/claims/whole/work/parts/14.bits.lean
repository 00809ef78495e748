/-! bits and counts -/
def cnt (p : Nat → Bool) : Nat → Nat
  | 0 => 0
  | m + 1 => cnt p m + (if p m then 1 else 0)
theorem cnt_le (p : Nat → Bool) (m : Nat) : cnt p m ≤ m := by
  induction m with
  | zero => exact Nat.le_refl _
  | succ m ih =>
    rw [cnt]
    split <;> omega
theorem cnt_congr {p q : Nat → Bool} {m : Nat} (h : ∀ k, k < m → p k = q k) : cnt p m = cnt q m := by
  induction m with
  | zero => rfl
  | succ m ih => rw [cnt, cnt, ih (fun k hk => h k (by omega)), h m (by omega)]
theorem cnt_more {p : Nat → Bool} {m n : Nat} (hn : m ≤ n) (h : ∀ k, m ≤ k → k < n → p k = false) : cnt p n = cnt p m := by
  induction n with
  | zero => rw [show m = 0 by omega]
  | succ n ih =>
    by_cases e : m = n + 1
    · rw [e]
    · rw [cnt, h n (by omega) (by omega), ih (by omega) (fun k h1 h2 => h k h1 (by omega))]
      rfl
theorem nI_bt {x i : Nat} (hx : x < 2 ^ 32) (hi : i < 32) : bt (nI x) i = x.testBit i := by
  unfold bt
  show (BitVec.ofNat 32 x).getLsbD i = x.testBit i
  rw [BitVec.getLsbD_ofNat]
  simp [hi]
theorem bit_get {b k : Nat} (hb : b < 2 ^ 31) (hk : k < 31) : (((nI b >>> (nI k &&& 31)) &&& (1 : Int32)) = (1 : Int32)) ↔ b.testBit k = true := by
  rw [pk_shrN hb _ k (s_l k (by omega)), pk_andN (k := 1) (Nat.lt_of_le_of_lt (Nat.div_le_self _ _) (by omega)) (by decide), l_1, nI_eq (by omega) (by omega), Nat.testBit_eq_decide_div_mod_eq]
  simp
theorem bc_small : ∀ x, x < 1024 → f_J6_bitCount_0f7a4 (nI x) = some (nI (cnt x.testBit 10)) := by decide +kernel
theorem andnot {w b : Nat} (hw : w < 256) (hb : b < 2 ^ 31) : nI w &&& (nI b ^^^ (-1 : Int32)) = nI (w &&& (b ^^^ 255)) := by
  apply b_ext
  intro i hi
  have h1 : w &&& (b ^^^ 255) < 2 ^ 32 := Nat.lt_of_le_of_lt Nat.and_le_left (by omega)
  rw [b_and, b_xor, b_m1 i hi, nI_bt (by omega) hi, nI_bt (by omega) hi, nI_bt h1 hi, Nat.testBit_and, Nat.testBit_xor]
  by_cases h8 : i < 8
  · rw [show (255 : Nat) = 2 ^ 8 - 1 from rfl, Nat.testBit_two_pow_sub_one]
    simp [h8]
  · rw [Nat.testBit_lt_two_pow (Nat.lt_of_lt_of_le hw (Nat.pow_le_pow_right (n := 2) (by omega) (show 8 ≤ i by omega)))]
    simp
theorem badIn_n {bits : Nat → Int32} {s w b : Nat} (hs : s < 10) (hw : w < 256) (hb : b < 256) (e : bits s = nI b) : f_X6_badIn bits (nI s) (nI w) = some (nI (cnt (fun k => w.testBit k && !b.testBit k) 8)) := by
  unfold f_X6_badIn
  have h1 : w &&& (b ^^^ 255) < 256 := Nat.lt_of_le_of_lt Nat.and_le_left hw
  rw [ld_n hs (by omega), bd_some, e, andnot hw (by omega), bc_small _ (by omega), bd_some]
  congr 2
  rw [cnt_more (m := 8) (by omega) (fun k h1 h2 => Nat.testBit_lt_two_pow (Nat.lt_of_lt_of_le (show w &&& (b ^^^ 255) < 2 ^ 8 by assumption) (Nat.pow_le_pow_right (by omega) h1)))]
  apply cnt_congr
  intro k hk
  rw [Nat.testBit_and, Nat.testBit_xor, show (255 : Nat) = 2 ^ 8 - 1 from rfl, Nat.testBit_two_pow_sub_one]
  simp [hk]
theorem every_n : ∀ n, n ≤ 8 → ((1 : Int32) <<< (nI n &&& 31)) - (1 : Int32) = nI (2 ^ n - 1) := by decide +kernel
theorem badAll_n {bits : Nat → Int32} {s n b : Nat} (hs : s < 10) (hn : n ≤ 8) (hb : b < 2 ^ n) (e : bits s = nI b) : f_X6_badIn bits (nI s) (nI (2 ^ n - 1)) = some (nI (cnt (fun k => !b.testBit k) n)) := by
  have h1 : 2 ^ n ≤ 256 := Nat.pow_le_pow_right (n := 2) (by omega) hn
  rw [badIn_n hs (by omega) (by omega) e]
  congr 2
  rw [cnt_more (m := n) (by omega) (fun k h1 h2 => by rw [Nat.testBit_two_pow_sub_one]; simp [show ¬ k < n by omega])]
  apply cnt_congr
  intro k hk
  rw [Nat.testBit_two_pow_sub_one]
  simp [hk]
theorem isOpen_n {bits : Nat → Int32} {s k b : Nat} (hs : s < 10) (hk : k < 8) (hb : b < 256) (e : bits s = nI b) : f_X6_isOpen bits (nI s) (nI k) = some (if b.testBit k then 1 else 0) := by
  unfold f_X6_isOpen
  rw [ld_n hs (by omega), bd_some, e]
  simp only [bit_get (show b < 2 ^ 31 by omega) (show k < 31 by omega)]
  split <;> rfl
theorem mIsOpen_n {L : Nat → Int32} {s k : Nat} (hs : s < 10) (hk : k < 8) : f_X9_isOpen L (nI s) (nI k) = some (if L (8 * s + k) = 111 then 1 else 0) := by
  unfold f_X9_isOpen
  rw [show ((8 : Int32) * nI s) + nI k = nI (8 * s + k) by rw [l_8, pk_mul, nI_add], ld_n (by omega) (by omega), bd_some]
  split <;> rfl
theorem mBadIn_n {L : Nat → Int32} {s n N : Nat} (hs : s < 10) (hn : n ≤ 8) (hN : 10 < N) : f_X9_badIn N (nI n) L (nI s) = some (nI (cnt (fun k => !decide (L (8 * s + k) = 111)) n)) := by
  unfold f_X9_badIn
  simp only [lc]
  refine lpI (fun f i (y : Int32) => f_X9_badIn_L4 (nI n) L (nI s) (fun z => some z) f y (nI i)) n (fun i y => y = nI (cnt (fun k => !decide (L (8 * s + k) = 111)) i)) (fun z => z = some (nI (cnt (fun k => !decide (L (8 * s + k) = 111)) n))) ?_ ?_ N 0 0 (by omega) (by omega) rfl
  · rintro f i _ hi rfl ih
    try dsimp only
    rw [f_X9_badIn_L4, if_neg (nI_ge hi (by omega)), mIsOpen_n hs (by omega), bd_some]
    simp only [lc, nI_1]
    refine Eq.trans ?_ (ih _ rfl)
    by_cases e : L (8 * s + i) = 111
    · simp only [if_pos e, one_ne, ↓reduceIte, cnt, e, decide_true, Bool.not_true, Bool.false_eq_true, Nat.add_zero]
      rw [show (0 : Int32) = nI 0 from rfl, nI_add]
      rfl
    · simp only [if_neg e, ↓reduceIte, cnt, e, decide_false, Bool.not_false, nI_1]
  · rintro f _ rfl
    try dsimp only
    rw [f_X9_badIn_L4, if_pos (Int32.le_refl _)]
theorem mHid_n {L : Nat → Int32} {s n N : Nat} (hs : s < 10) (hn : n ≤ 8) (hN : 10 < N) : f_X9_hiddenIn N (nI n) L (nI s) = some (nI (cnt (fun k => decide (L (8 * s + k) = 104)) n)) := by
  unfold f_X9_hiddenIn
  simp only [lc]
  refine lpI (fun f i (y : Int32) => f_X9_hiddenIn_L4 (nI n) L (nI s) (fun z => some z) f y (nI i)) n (fun i y => y = nI (cnt (fun k => decide (L (8 * s + k) = 104)) i)) (fun z => z = some (nI (cnt (fun k => decide (L (8 * s + k) = 104)) n))) ?_ ?_ N 0 0 (by omega) (by omega) rfl
  · rintro f i _ hi rfl ih
    try dsimp only
    rw [f_X9_hiddenIn_L4, if_neg (nI_ge hi (by omega)), show ((8 : Int32) * nI s) + nI i = nI (8 * s + i) by rw [l_8, pk_mul, nI_add], ld_n (by omega) (by omega), bd_some]
    simp only [lc, nI_1]
    refine Eq.trans ?_ (ih _ rfl)
    by_cases e : L (8 * s + i) = 104
    · simp only [if_pos e, cnt, e, decide_true, ↓reduceIte, nI_1]
    · simp only [if_neg e, cnt, e, decide_false, Bool.false_eq_true, ↓reduceIte, Nat.add_zero]
      rw [show (0 : Int32) = nI 0 from rfl, nI_add]
      rfl
  · rintro f _ rfl
    try dsimp only
    rw [f_X9_hiddenIn_L4, if_pos (Int32.le_refl _)]
theorem hid_n {L : Nat → Int32} {s n N : Nat} (hs : s < 10) (hn : n ≤ 8) (hN : 10 < N) : f_X6_hiddenIn N L (nI s) (nI n) = some (nI (cnt (fun k => decide (L (8 * s + k) = 104)) n)) := by
  unfold f_X6_hiddenIn
  simp only [lc]
  refine lpI (fun f i (y : Int32) => f_X6_hiddenIn_L5 L (nI s) (nI n) (fun z => some z) f y (nI i)) n (fun i y => y = nI (cnt (fun k => decide (L (8 * s + k) = 104)) i)) (fun z => z = some (nI (cnt (fun k => decide (L (8 * s + k) = 104)) n))) ?_ ?_ N 0 0 (by omega) (by omega) rfl
  · rintro f i _ hi rfl ih
    try dsimp only
    unfold f_X6_lookOf at ih
    rw [f_X6_hiddenIn_L5, if_neg (nI_ge hi (by omega))]
    unfold f_X6_lookOf
    rw [show (nI s * (8 : Int32)) + nI i = nI (8 * s + i) by rw [l_8, pk_mul, nI_add, Nat.mul_comm], ld_n (by omega) (by omega), bd_some, bd_some]
    simp only [lc, nI_1]
    refine Eq.trans ?_ (ih _ rfl)
    by_cases e : L (8 * s + i) = 104
    · simp only [if_pos e, cnt, e, decide_true, ↓reduceIte]
    · simp only [if_neg e, cnt, e, decide_false, Bool.false_eq_true, ↓reduceIte, Nat.add_zero]
  · rintro f _ rfl
    try dsimp only
    rw [f_X6_hiddenIn_L5, if_pos (Int32.le_refl _)]
