/-! how many ones: the machine's way, byte by byte -/
def bA (m x : Nat) : Nat := x - ((x / 2) &&& m)
def bB (m x : Nat) : Nat := (x &&& m) + ((x / 4) &&& m)
def bC (m x : Nat) : Nat := (x + x / 16) &&& m
theorem and_split (y d m c : Nat) (hd : d < 256) (hc : c < 256) : (256 * y + d) &&& (256 * m + c) = 256 * (y &&& m) + (d &&& c) := by
  apply Nat.eq_of_testBit_eq
  intro i
  have h1 : (d &&& c) < 2 ^ 8 := Nat.lt_of_le_of_lt Nat.and_le_left hd
  rw [Nat.testBit_and, show 256 = 2 ^ 8 from rfl, Nat.testBit_two_pow_mul_add _ hd, Nat.testBit_two_pow_mul_add _ hc, Nat.testBit_two_pow_mul_add _ h1]
  split
  · rw [Nat.testBit_and]
  · rw [Nat.testBit_and]
theorem bA_byte : ∀ e, e < 2 → ∀ d, d < 256 → (128 * e + d / 2) &&& 85 = (d / 2) &&& 85 := by decide +kernel
theorem bB_byte : ∀ e, e < 4 → ∀ d, d < 256 → (64 * e + d / 4) &&& 51 = (d / 4) &&& 51 := by decide +kernel
theorem bA_split (y d m : Nat) (hd : d < 256) : bA (256 * m + 85) (256 * y + d) = 256 * bA m y + bA 85 d := by
  unfold bA
  have e : (256 * y + d) / 2 = 256 * (y / 2) + (128 * (y % 2) + d / 2) := by omega
  have h1 : (y / 2) &&& m ≤ y := Nat.le_trans Nat.and_le_left (by omega)
  have h2 : (d / 2) &&& 85 ≤ d := Nat.le_trans Nat.and_le_left (by omega)
  rw [e, and_split _ _ _ _ (by omega) (by omega), bA_byte _ (by omega) _ hd]
  omega
theorem bB_split (y d m : Nat) (hd : d < 256) : bB (256 * m + 51) (256 * y + d) = 256 * bB m y + bB 51 d := by
  unfold bB
  have e : (256 * y + d) / 4 = 256 * (y / 4) + (64 * (y % 4) + d / 4) := by omega
  rw [and_split _ _ _ _ hd (by omega), e, and_split _ _ _ _ (by omega) (by omega), bB_byte _ (by omega) _ hd]
  omega
theorem bC_byte : ∀ e, e < 5 → ∀ d, d < 69 → (16 * e + d + d / 16) &&& 15 = (d + d / 16) &&& 15 := by decide +kernel
theorem bC_split (y d m : Nat) (hd : d < 69) (hy : y % 16 < 5) : bC (256 * m + 15) (256 * y + d) = 256 * bC m y + bC 15 d := by
  unfold bC
  have e : (256 * y + d) + (256 * y + d) / 16 = 256 * (y + y / 16) + (16 * (y % 16) + d + d / 16) := by omega
  rw [e, and_split _ _ _ _ (by omega) (by omega), bC_byte _ hy _ hd]
theorem byte_A : ∀ d, d < 256 → bA 85 d < 256 := by decide +kernel
theorem byte_B : ∀ d, d < 256 → bB 51 (bA 85 d) < 69 ∧ bB 51 (bA 85 d) % 16 < 5 ∧ bC 15 (bB 51 (bA 85 d)) = cnt d.testBit 8 := by decide +kernel
theorem cnt_add (p : Nat → Bool) (m k : Nat) : cnt p (m + k) = cnt p m + cnt (fun j => p (m + j)) k := by
  induction k with
  | zero => rfl
  | succ k ih => rw [show m + (k + 1) = (m + k) + 1 by omega, cnt, cnt, ih]; omega
theorem cnt_byte {y d k : Nat} (hd : d < 256) : cnt (256 * y + d).testBit (8 + k) = cnt d.testBit 8 + cnt y.testBit k := by
  rw [cnt_add]
  congr 1
  · apply cnt_congr
    intro j hj
    rw [show 256 = 2 ^ 8 from rfl, Nat.testBit_two_pow_mul_add _ hd, if_pos hj]
  · apply cnt_congr
    intro j hj
    rw [show 256 = 2 ^ 8 from rfl, Nat.testBit_two_pow_mul_add _ hd, if_neg (by omega), show 8 + j - 8 = j by omega]
theorem sh_u (x k : Nat) (hx : x < 2 ^ 32) (hk : k < 32) : (Int32.toUInt32 (nI x) >>> (Int32.toUInt32 (nI k) &&& Int32.toUInt32 31)).toInt32 = nI (x / 2 ^ k) := pk_ushrN hx (nI k) k (s_u k hk)
theorem sum_bytes {p0 p1 p2 p3 : Nat} (h0 : p0 ≤ 8) (h1 : p1 ≤ 8) (h2 : p2 ≤ 8) (h3 : p3 ≤ 8) : (256 * (256 * (256 * p3 + p2) + p1) + p0 + (256 * (256 * (256 * p3 + p2) + p1) + p0) / 2 ^ 8 + (256 * (256 * (256 * p3 + p2) + p1) + p0 + (256 * (256 * (256 * p3 + p2) + p1) + p0) / 2 ^ 8) / 2 ^ 16) % 2 ^ 6 = p0 + (p1 + (p2 + p3)) := by
  have e1 : (256 * (256 * (256 * p3 + p2) + p1) + p0) / 2 ^ 8 = 256 * (256 * p3 + p2) + p1 := by omega
  rw [e1]
  have e2 : (256 * (256 * (256 * p3 + p2) + p1) + p0 + (256 * (256 * p3 + p2) + p1)) / 2 ^ 16 = 256 * p3 + (p2 + p3) := by omega
  rw [e2]
  omega
theorem bitCount_n {x : Nat} (hx : x < 2 ^ 32) : f_J6_bitCount_0f7a4 (nI x) = some (nI (cnt x.testBit 32)) := by
  -- the four bytes
  obtain ⟨y1, b0, rfl, hb0⟩ : ∃ y b, x = 256 * y + b ∧ b < 256 := ⟨x / 256, x % 256, by omega, by omega⟩
  obtain ⟨y2, b1, rfl, hb1⟩ : ∃ y b, y1 = 256 * y + b ∧ b < 256 := ⟨y1 / 256, y1 % 256, by omega, by omega⟩
  obtain ⟨b3, b2, rfl, hb2⟩ : ∃ y b, y2 = 256 * y + b ∧ b < 256 := ⟨y2 / 256, y2 % 256, by omega, by omega⟩
  have hb3 : b3 < 256 := by omega
  have A0 := byte_A b0 hb0
  have A1 := byte_A b1 hb1
  have A2 := byte_A b2 hb2
  have A3 := byte_A b3 hb3
  obtain ⟨B0, M0, C0⟩ := byte_B b0 hb0
  obtain ⟨B1, M1, C1⟩ := byte_B b1 hb1
  obtain ⟨B2, M2, C2⟩ := byte_B b2 hb2
  obtain ⟨B3, M3, C3⟩ := byte_B b3 hb3
  have eA : bA 1431655765 (256 * (256 * (256 * b3 + b2) + b1) + b0) = 256 * (256 * (256 * bA 85 b3 + bA 85 b2) + bA 85 b1) + bA 85 b0 := by
    rw [show 1431655765 = 256 * (256 * (256 * 85 + 85) + 85) + 85 from rfl, bA_split _ _ _ hb0, bA_split _ _ _ hb1, bA_split _ _ _ hb2]
  have eB : bB 858993459 (256 * (256 * (256 * bA 85 b3 + bA 85 b2) + bA 85 b1) + bA 85 b0) = 256 * (256 * (256 * bB 51 (bA 85 b3) + bB 51 (bA 85 b2)) + bB 51 (bA 85 b1)) + bB 51 (bA 85 b0) := by
    rw [show 858993459 = 256 * (256 * (256 * 51 + 51) + 51) + 51 from rfl, bB_split _ _ _ A0, bB_split _ _ _ A1, bB_split _ _ _ A2]
  have eC : bC 252645135 (256 * (256 * (256 * bB 51 (bA 85 b3) + bB 51 (bA 85 b2)) + bB 51 (bA 85 b1)) + bB 51 (bA 85 b0)) = 256 * (256 * (256 * cnt b3.testBit 8 + cnt b2.testBit 8) + cnt b1.testBit 8) + cnt b0.testBit 8 := by
    rw [show 252645135 = 256 * (256 * (256 * 15 + 15) + 15) + 15 from rfl, bC_split _ _ _ B0 (by omega), bC_split _ _ _ B1 (by omega), bC_split _ _ _ B2 M3, C0, C1, C2, C3]
  have p0 := cnt_le b0.testBit 8
  have p1 := cnt_le b1.testBit 8
  have p2 := cnt_le b2.testBit 8
  have p3 := cnt_le b3.testBit 8
  have eN : cnt (256 * (256 * (256 * b3 + b2) + b1) + b0).testBit 32 = cnt b0.testBit 8 + (cnt b1.testBit 8 + (cnt b2.testBit 8 + cnt b3.testBit 8)) := by
    rw [show 32 = 8 + 24 from rfl, cnt_byte hb0, show 24 = 8 + 16 from rfl, cnt_byte hb1, show 16 = 8 + 8 from rfl, cnt_byte hb2]
  have bl : ((256 * (256 * (256 * b3 + b2) + b1) + b0) / 2 &&& 1431655765) ≤ 256 * (256 * (256 * b3 + b2) + b1) + b0 := Nat.le_trans Nat.and_le_left (by omega)
  have sA : nI (256 * (256 * (256 * b3 + b2) + b1) + b0) - ((Int32.toUInt32 (nI (256 * (256 * (256 * b3 + b2) + b1) + b0)) >>> (Int32.toUInt32 (1 : Int32) &&& Int32.toUInt32 31)).toInt32 &&& (1431655765 : Int32)) = nI (256 * (256 * (256 * bA 85 b3 + bA 85 b2) + bA 85 b1) + bA 85 b0) := by
    rw [l_1, sh_u _ 1 hx (by omega), show (1431655765 : Int32) = nI 1431655765 from rfl, fa_and, pk_sub (by simpa using bl), ← eA]
    rfl
  have sB : ∀ v, v < 2 ^ 32 → (nI v &&& (858993459 : Int32)) + ((Int32.toUInt32 (nI v) >>> (Int32.toUInt32 (2 : Int32) &&& Int32.toUInt32 31)).toInt32 &&& (858993459 : Int32)) = nI (bB 858993459 v) := by
    intro v hv
    rw [l_2, sh_u _ 2 hv (by omega), show (858993459 : Int32) = nI 858993459 from rfl, fa_and, fa_and, nI_add]
    rfl
  have sC : ∀ v, v < 2 ^ 32 → (nI v + (Int32.toUInt32 (nI v) >>> (Int32.toUInt32 (4 : Int32) &&& Int32.toUInt32 31)).toInt32) &&& (252645135 : Int32) = nI (bC 252645135 v) := by
    intro v hv
    rw [l_4, sh_u _ 4 hv (by omega), show (252645135 : Int32) = nI 252645135 from rfl, nI_add, fa_and]
    rfl
  unfold f_J6_bitCount_0f7a4
  rw [sA, sB _ (by omega), eB, sC _ (by omega), eC, eN, l_8, sh_u _ 8 (by omega) (by omega), nI_add, show (16 : Int32) = nI 16 from rfl, sh_u _ 16 (by omega) (by omega), nI_add, show (63 : Int32) = nI (2 ^ 6 - 1) from rfl, fa_mask]
  congr 2
  exact sum_bytes p0 p1 p2 p3
/-- the lowest one -/
def ntzR (E : Int32) : Option Int32 :=
  if 0 < E then
  lc (fun (x2 : Int32) (x3 : Int32) => lc (fun (x5 : Int32) (x6 : Int32) => lc (fun (x8 : Int32) (x9 : Int32) => lc (fun (x11 : Int32) (x12 : Int32) => some (x12 + ((Int32.toUInt32 x11 >>> (Int32.toUInt32 (1 : Int32) &&& Int32.toUInt32 31)).toInt32))) (fun k10 =>
  if x8 ≤ (4 : Int32) then k10 x8 x9 else k10 ((Int32.toUInt32 x8 >>> (Int32.toUInt32 (2 : Int32) &&& Int32.toUInt32 31)).toInt32) (x9 + (2 : Int32)))) (fun k7 =>
  if x5 ≤ (16 : Int32) then k7 x5 x6 else k7 ((Int32.toUInt32 x5 >>> (Int32.toUInt32 (4 : Int32) &&& Int32.toUInt32 31)).toInt32) (x6 + (4 : Int32)))) (fun k4 =>
  if x2 ≤ (256 : Int32) then k4 x2 x3 else k4 ((Int32.toUInt32 x2 >>> (Int32.toUInt32 (8 : Int32) &&& Int32.toUInt32 31)).toInt32) (x3 + (8 : Int32)))) (fun k1 =>
  if E ≤ (65536 : Int32) then k1 E (1 : Int32) else k1 ((Int32.toUInt32 E >>> (Int32.toUInt32 (16 : Int32) &&& Int32.toUInt32 31)).toInt32) ((1 : Int32) + (16 : Int32)))
  else some (E &&& (32 : Int32))
theorem ntz_R (x : Int32) : f_J6_numberOfTrailingZeros_0f7a4 x = ntzR ((x ^^^ (-1 : Int32)) &&& (x - (1 : Int32))) := rfl
theorem ntzR_n : ∀ j, j < 31 → ntzR (nI (2 ^ j - 1)) = some (nI j) := by decide +kernel
theorem ntz_n {x j : Nat} (hx : x < 2 ^ 31) (hj : x.testBit j = true) (hl : ∀ i, i < j → x.testBit i = false) : f_J6_numberOfTrailingZeros_0f7a4 (nI x) = some (nI j) := by
  have hj31 : j < 31 := by
    rcases Nat.lt_or_ge j 31 with h | h
    · exact h
    · rw [Nat.testBit_lt_two_pow (Nat.lt_of_lt_of_le hx (Nat.pow_le_pow_right (by omega) h))] at hj; cases hj
  -- x is 2^j times an odd number
  have hmod : x % 2 ^ j = 0 := by
    apply Nat.eq_of_testBit_eq
    intro i
    rw [Nat.testBit_mod_two_pow, Nat.zero_testBit]
    by_cases h : i < j
    · rw [hl i h]; simp
    · simp [h]
  obtain ⟨q, hq⟩ : ∃ q, x = 2 ^ j * q := ⟨x / 2 ^ j, by have := Nat.div_add_mod x (2 ^ j); omega⟩
  have hodd : q % 2 = 1 := by
    have h0 : x.testBit j = q.testBit 0 := by
      rw [hq]
      have := Nat.testBit_two_pow_mul_add q (Nat.two_pow_pos j) j
      rw [Nat.add_zero, if_neg (by omega), Nat.sub_self] at this
      exact this
    rw [h0, Nat.testBit_zero] at hj
    simpa using hj
  have jp : 0 < 2 ^ j := Nat.two_pow_pos j
  have e1 : x - 1 = 2 ^ j * (q - 1) + (2 ^ j - 1) := by
    obtain ⟨r, rfl⟩ : ∃ r, q = r + 1 := ⟨q - 1, by omega⟩
    rw [hq, Nat.mul_succ]
    simp only [Nat.add_sub_cancel]
    omega
  have x1 : 1 ≤ x := by
    rcases Nat.eq_zero_or_pos x with h | h
    · subst h; rw [Nat.zero_testBit] at hj; cases hj
    · exact h
  have j31 : 2 ^ j ≤ 2 ^ 30 := Nat.pow_le_pow_right (by omega) (by omega)
  rw [ntz_R]
  have e2 : (nI x ^^^ (-1 : Int32)) &&& (nI x - (1 : Int32)) = nI (2 ^ j - 1) := by
    rw [l_1, pk_sub x1]
    apply b_ext
    intro i hi
    rw [b_and, b_xor, ← l_1, b_m1 i hi, nI_bt (by omega) hi, nI_bt (by omega) hi, nI_bt (by omega) hi, e1, Nat.testBit_two_pow_mul_add _ (show 2 ^ j - 1 < 2 ^ j by omega), Nat.testBit_two_pow_sub_one]
    by_cases h : i < j
    · rw [hl i h]; simp [h]
    · rw [if_neg h]
      have h0 : x.testBit i = q.testBit (i - j) := by
        rw [hq]
        have := Nat.testBit_two_pow_mul_add q jp i
        rw [Nat.add_zero, if_neg h] at this
        exact this
      rw [h0]
      by_cases hij : i = j
      · subst hij
        simp [Nat.testBit_zero, hodd]
      · obtain ⟨t, ht⟩ : ∃ t, i - j = t + 1 := ⟨i - j - 1, by omega⟩
        rw [ht, Nat.testBit_succ, Nat.testBit_succ, show (q - 1) / 2 = q / 2 by omega]
        simp [h]
  rw [e2]
  exact ntzR_n j hj31
def nxt (x : Nat) : Nat := (75 * x + 74) % 65537
theorem nxt_lt (x : Nat) : nxt x < 65537 := Nat.mod_lt _ (by omega)
theorem nxt_i {x : Nat} (hx : x < 65537) : irm (((75 : Int32) * nI x) + (74 : Int32)) (65537 : Int32) = some (nI (nxt x)) := by
  unfold irm nxt
  rw [if_neg (by decide), l_75, pk_mul, l_74, nI_add, l_65537, pk_rem (by omega) (by omega) (by omega)]
theorem L_75 : (75 : Int64) = lN 75 := rfl
theorem L_74 : (74 : Int64) = lN 74 := rfl
theorem L_65537 : (65537 : Int64) = lN 65537 := rfl
theorem nxt_l {x : Nat} (hx : x < 65537) : lrm (((75 : Int64) * (Int32.toInt64 (nI x))) + (74 : Int64)) (65537 : Int64) = some (lN (nxt x)) := by
  unfold lrm nxt
  rw [if_neg (by decide), nI_l (by omega), L_75, lN_mul, L_74, lN_add, L_65537, pk_lRem (by omega) (by omega) (by omega)]
def xs_ (x : Nat) : Nat → Nat
  | 0 => x
  | i + 1 => nxt (xs_ x i)
theorem xs_lt {x : Nat} (hx : x < 65537) (i : Nat) : xs_ x i < 65537 := by
  cases i with
  | zero => exact hx
  | succ i => exact nxt_lt _
def fl_ (q : Nat → Nat) (x : Nat) : Nat → Bool
  | 0 => true
  | i + 1 => fl_ q x i && decide (q i ≤ xs_ x (i + 1) % 4)
theorem rem4 {x : Nat} (hx : x < 65537) : irm (nI x) (4 : Int32) = some (nI (x % 4)) := by
  unfold irm
  rw [if_neg (by decide), l_4, pk_rem (by omega) (by omega) (by omega)]
section Shoot
variable {tired : Int32} {Q mQ : Nat → Int32} {n x : Nat} {sh : Int32} {q : Nat → Nat}
theorem shotC (n2 : n ≤ 8) (hx : x < 65537) (hq : ∀ k, k < 8 → q k ≤ 4 ∧ f_X2_quartersIn tired Q sh (nI k) = some (nI (q k))) (K : Int32 → Int32 → Option Int32) : f_X2_drawShots_L21 tired Q (nI n) sh K 100 (nI x) 1 0 = K (nI (xs_ x n)) (if fl_ q x n then 1 else 0) := by
  refine lpI (fun f i (z : Int32 × Int32) => f_X2_drawShots_L21 tired Q (nI n) sh K f z.1 z.2 (nI i)) n (fun i z => z.1 = nI (xs_ x i) ∧ z.2 = (if fl_ q x i then 1 else 0)) (fun z => z = K (nI (xs_ x n)) (if fl_ q x n then 1 else 0)) ?_ ?_ 100 0 (nI x, 1) (by omega) (by omega) ⟨rfl, rfl⟩
  · rintro f i ⟨a, b⟩ hi ⟨h1, h2⟩ ih
    dsimp only at h1 h2 ih ⊢
    subst h1; subst h2
    obtain ⟨v1, v2⟩ := hq i (by omega)
    have l1 := xs_lt hx i
    have l2 := xs_lt hx (i + 1)
    rw [f_X2_drawShots_L21, if_neg (nI_ge hi (by omega)), nxt_i l1, bd_some, show nxt (xs_ x i) = xs_ x (i + 1) from rfl, rem4 l2, bd_some, v2, bd_some]
    simp only [lc, nI_1, nI_leI (show q i < 2 ^ 31 by omega) (show xs_ x (i + 1) % 4 < 2 ^ 31 by omega)]
    refine Eq.trans ?_ (ih (nI (xs_ x (i + 1)), if fl_ q x (i + 1) then 1 else 0) ⟨rfl, rfl⟩)
    by_cases e : q i ≤ xs_ x (i + 1) % 4
    · rw [if_pos e]
      simp [fl_, e]
    · rw [if_neg e]
      simp [fl_, e]
  · rintro f ⟨a, b⟩ ⟨h1, h2⟩
    dsimp only at h1 h2 ⊢
    subst h1; subst h2
    rw [f_X2_drawShots_L21, if_pos (Int32.le_refl _)]
theorem shotM (n2 : n ≤ 8) (hx : x < 65537) (hq : ∀ k, k < 8 → q k ≤ 4 ∧ f_X9_quartersOf mQ tired (nI k) sh = some (nI (q k))) (K : Int32 → Int32 → Option Int32) : f_X9_shoot_L62 (nI n) mQ tired sh K 100 (nI x) 1 0 = K (nI (xs_ x n)) (if fl_ q x n then 1 else 0) := by
  refine lpI (fun f i (z : Int32 × Int32) => f_X9_shoot_L62 (nI n) mQ tired sh K f z.1 z.2 (nI i)) n (fun i z => z.1 = nI (xs_ x i) ∧ z.2 = (if fl_ q x i then 1 else 0)) (fun z => z = K (nI (xs_ x n)) (if fl_ q x n then 1 else 0)) ?_ ?_ 100 0 (nI x, 1) (by omega) (by omega) ⟨rfl, rfl⟩
  · rintro f i ⟨a, b⟩ hi ⟨h1, h2⟩ ih
    dsimp only at h1 h2 ih ⊢
    subst h1; subst h2
    obtain ⟨v1, v2⟩ := hq i (by omega)
    have l1 := xs_lt hx i
    have l2 := xs_lt hx (i + 1)
    rw [f_X9_shoot_L62, if_neg (nI_ge hi (by omega)), nxt_l l1, bd_some, show nxt (xs_ x i) = xs_ x (i + 1) from rfl, lN_i, rem4 l2, v2]
    simp only [lc, bd_some, nI_1, nI_ltI (show xs_ x (i + 1) % 4 < 2 ^ 31 by omega) (show q i < 2 ^ 31 by omega)]
    refine Eq.trans ?_ (ih (nI (xs_ x (i + 1)), if fl_ q x (i + 1) then 1 else 0) ⟨rfl, rfl⟩)
    by_cases ef : fl_ q x i = true
    · simp only [ef, ↓reduceIte, one_ne]
      by_cases e : q i ≤ xs_ x (i + 1) % 4
      · rw [if_neg (show ¬ xs_ x (i + 1) % 4 < q i by omega)]
        simp [fl_, ef, e]
      · rw [if_pos (show xs_ x (i + 1) % 4 < q i by omega)]
        simp [fl_, e]
    · simp [fl_, ef]
  · rintro f ⟨a, b⟩ ⟨h1, h2⟩
    dsimp only at h1 h2 ⊢
    subst h1; subst h2
    rw [f_X9_shoot_L62, if_pos (Int32.le_refl _)]
end Shoot
theorem pu_shoot {n c : Nat} {people bride count hands mpeople mshots mbride mhands : Int32} {looks bits mlooks : Nat → Int32} (hsh : R_sh n c people bride count hands looks bits mpeople mshots mlooks mbride mhands) {tired mtired : Int32} {Q mQ : Nat → Int32} (hod : R_od tired Q mQ mtired) (p1 p2 p3 : Int32) :
    ∃ N r, f_X8_shoot N people tired Q p1 p2 p3 = some r ∧ f_X9_shoot N mpeople mQ mtired p1 p2 p3 = some r := by
  obtain ⟨⟨n1, n2, n3⟩, ⟨rfl, rfl, rfl, rfl⟩, -⟩ := hsh
  obtain ⟨rfl, -⟩ := id hod
  refine ⟨100, ?_⟩
  unfold f_X8_shoot f_X9_shoot
  rw [within_eq, in_eq2 (a := 0) (b := 9999) (by decide) (by decide)]
  simp only [bd_some, lc]
  by_cases e1 : (0 : Int32) ≤ p1 ∧ p1 ≤ 9999
  · simp only [if_pos e1, one_ne, ↓reduceIte]
    rw [within_eq, in_eq2 (a := 1) (b := 30) (by decide) (by decide)]
    simp only [bd_some]
    by_cases e2 : (1 : Int32) ≤ p2 ∧ p2 ≤ 30
    · simp only [if_pos e2, one_ne, ↓reduceIte]
      rw [within_eq, in_eq2 (a := 0) (b := 1) (by decide) (by decide)]
      simp only [bd_some]
      by_cases e3 : (0 : Int32) ≤ p3 ∧ p3 ≤ 1
      · simp only [if_pos e3, one_ne, ↓reduceIte]
        obtain ⟨sd, sd1, sd2, rfl⟩ := rg_of (a := 0) (b := 9999) (by omega) (by omega) e1
        obtain ⟨m, m1, m2, rfl⟩ := rg_of (a := 1) (b := 30) (by omega) (by omega) e2
        obtain ⟨q, hq⟩ : ∃ q : Int32 → Nat → Nat, ∀ sh k, k < 8 → q sh k ≤ 4 ∧ f_X2_quartersIn mtired Q sh (nI k) = some (nI (q sh k)) ∧ f_X9_quartersOf mQ mtired (nI k) sh = some (nI (q sh k)) := by
          have : ∀ sh, ∃ f : Nat → Nat, ∀ k, k < 8 → f k ≤ 4 ∧ f_X2_quartersIn mtired Q sh (nI k) = some (nI (f k)) ∧ f_X9_quartersOf mQ mtired (nI k) sh = some (nI (f k)) := by
            intro sh
            have : ∀ k, ∃ v, k < 8 → v ≤ 4 ∧ f_X2_quartersIn mtired Q sh (nI k) = some (nI v) ∧ f_X9_quartersOf mQ mtired (nI k) sh = some (nI v) := by
              intro k
              by_cases h : k < 8
              · obtain ⟨v, hv⟩ := quart_n hod sh h
                exact ⟨v, fun _ => hv⟩
              · exact ⟨0, fun h' => absurd h' h⟩
            exact Classical.skolem.mp this
          exact Classical.skolem.mp this
        have hC := fun (x : Nat) (hx : x < 65537) (sh : Int32) K => shotC (Q := Q) (tired := mtired) (sh := sh) (q := q sh) n2 hx (fun k hk => ⟨(hq sh k hk).1, (hq sh k hk).2.1⟩) K
        have hM := fun (x : Nat) (hx : x < 65537) (sh : Int32) K => shotM (mQ := mQ) (tired := mtired) (sh := sh) (q := q sh) n2 hx (fun k hk => ⟨(hq sh k hk).1, (hq sh k hk).2.2⟩) K
        -- all shots: the bits on one side, the first and the number on the other
        have key : ∀ K : Int32 → Int32 → Option Int32, ∃ G, G < 2 ^ m ∧ f_X2_drawShots 100 mtired Q (nI sd) (nI m) (nI n) = some (nI G) ∧ ∃ F, ((G = 0 ∧ F = (-6 : Int32)) ∨ ∃ j, F = nI j ∧ G.testBit j = true ∧ ∀ i, i < j → G.testBit i = false) ∧ f_X9_shoot_L50 (nI n) mQ mtired (nI m) 100 K 100 (nI sd) (-6) 0 0 = K F (nI (cnt G.testBit 32)) := by
          intro K
          unfold f_X2_drawShots
          simp only [lc]
          refine lpI (fun f i (z : Nat × Nat × Int32 × Int32) => (f_X2_drawShots_L9 mtired Q (nI m) (nI n) 100 (fun z => some z) f (nI z.1) (nI z.2.1) (nI i), f_X9_shoot_L50 (nI n) mQ mtired (nI m) 100 K f (nI z.2.1) z.2.2.1 z.2.2.2 (nI i))) m (fun i z => z.1 < 2 ^ i ∧ z.2.1 < 65537 ∧ z.2.2.2 = nI (cnt z.1.testBit 32) ∧ ((z.1 = 0 ∧ z.2.2.1 = (-6 : Int32)) ∨ ∃ j, z.2.2.1 = nI j ∧ z.1.testBit j = true ∧ ∀ i, i < j → z.1.testBit i = false)) (fun z => ∃ G, G < 2 ^ m ∧ z.1 = some (nI G) ∧ ∃ F, ((G = 0 ∧ F = (-6 : Int32)) ∨ ∃ j, F = nI j ∧ G.testBit j = true ∧ ∀ i, i < j → G.testBit i = false) ∧ z.2 = K F (nI (cnt G.testBit 32))) ?_ ?_ 100 0 (0, sd, -6, 0) (by omega) (by omega) ⟨Nat.two_pow_pos _, by dsimp only; omega, by dsimp only; rw [cnt_zero (fun k _ => Nat.zero_testBit k)]; rfl, Or.inl ⟨rfl, rfl⟩⟩
          · rintro f i ⟨G, x, F, C⟩ hi ⟨h1, h2, hC0, h3⟩ ih
            dsimp only at h1 h2 hC0 h3 ih ⊢
            subst hC0
            rw [f_X2_drawShots_L9, f_X9_shoot_L50, if_neg (nI_ge hi (by omega)), if_neg (nI_ge hi (by omega))]
            simp only [lc]
            rw [hC x h2, hM x h2, nI_1]
            have lx := xs_lt h2 n
            by_cases ef : fl_ (q (nI i)) x n = true
            · simp only [ef, ↓reduceIte, one_ne]
              rw [shl1 i (by omega), fa_or]
              have g1 : G ||| 2 ^ i < 2 ^ (i + 1) := Nat.or_lt_two_pow (by rw [Nat.pow_succ]; omega) (Nat.pow_lt_pow_right (by omega) (by omega))
              have g2 : ∀ t, (G ||| 2 ^ i).testBit t = (G.testBit t || decide (i = t)) := fun t => by rw [Nat.testBit_or, Nat.testBit_two_pow]
              have gc : cnt (G ||| 2 ^ i).testBit 32 = cnt G.testBit 32 + 1 := by
                have hz : ∀ t, i ≤ t → G.testBit t = false := fun t ht => Nat.testBit_lt_two_pow (Nat.lt_of_lt_of_le h1 (Nat.pow_le_pow_right (by omega) ht))
                rw [cnt_more (m := i + 1) (by omega) (fun t h1 h2 => by rw [g2, hz t (by omega)]; simp; omega), cnt_more (p := G.testBit) (m := i) (by omega) (fun t h1 h2 => hz t h1), cnt, g2, hz i (Nat.le_refl _)]
                simp only [decide_true, Bool.or_true, ↓reduceIte]
                congr 1
                exact cnt_congr (fun t ht => by rw [g2]; simp [show ¬ i = t by omega])
              rcases h3 with ⟨hG, rfl⟩ | ⟨j, rfl, j1, j2⟩
              · rw [if_neg (by decide)]
                have hGt : ∀ t, G.testBit t = false := fun t => by rw [hG, Nat.zero_testBit]
                have := ih (G ||| 2 ^ i, xs_ x n, nI i, nI (cnt (G ||| 2 ^ i).testBit 32)) ⟨g1, lx, rfl, Or.inr ⟨i, rfl, by rw [g2]; simp, fun t ht => by rw [g2, hGt]; simp; omega⟩⟩
                dsimp only at this
                rw [gc] at this
                rw [nI_1]
                exact this
              · have jlt : j < i := by
                  rcases Nat.lt_or_ge j i with h | h
                  · exact h
                  · rw [Nat.testBit_lt_two_pow (Nat.lt_of_lt_of_le h1 (Nat.pow_le_pow_right (by omega) h))] at j1; cases j1
                rw [if_pos (nI_pos' (by omega))]
                have := ih (G ||| 2 ^ i, xs_ x n, nI j, nI (cnt (G ||| 2 ^ i).testBit 32)) ⟨g1, lx, rfl, Or.inr ⟨j, rfl, by rw [g2, j1]; simp, fun t ht => by rw [g2, j2 t ht]; simp; omega⟩⟩
                dsimp only at this
                rw [gc] at this
                rw [nI_1]
                exact this
            · simp only [ef, Bool.false_eq_true, ↓reduceIte]
              rw [show nI (cnt G.testBit 32) + (0 : Int32) = nI (cnt G.testBit 32) from Int32.add_zero _]
              exact ih (G, xs_ x n, F, nI (cnt G.testBit 32)) ⟨by dsimp only; rw [Nat.pow_succ]; omega, lx, rfl, h3⟩
          · rintro f ⟨G, x, F, C⟩ ⟨h1, h2, hC0, h3⟩
            dsimp only at h1 h2 hC0 h3 ⊢
            subst hC0
            rw [f_X2_drawShots_L9, f_X9_shoot_L50, if_pos (Int32.le_refl _), if_pos (Int32.le_refl _)]
            exact ⟨G, h1, rfl, F, h3, rfl⟩
        obtain ⟨G, g1, g2, F, g3, g4⟩ := key (fun z11 z12 => if p3 = 0 then some z11 else some z12)
        have g30 : 2 ^ m ≤ 2 ^ 30 := Nat.pow_le_pow_right (by omega) m2
        rw [g2, g4, bd_some, bitCount_n (by omega), bd_some]
        by_cases ep : p3 = 0
        · subst ep
          rw [if_neg (by decide), if_pos rfl]
          rcases g3 with ⟨rfl, rfl⟩ | ⟨j, rfl, j1, j2⟩
          · rw [if_pos (show nI 0 = 0 from rfl)]
            exact ⟨_, rfl, rfl⟩
          · have gne : G ≠ 0 := fun e => by subst e; rw [Nat.zero_testBit] at j1; cases j1
            rw [if_neg (show ¬ nI G = 0 from nI_nei (b := 0) gne (by omega) (by omega)), ntz_n (by omega) j1 j2]
            exact ⟨_, rfl, rfl⟩
        · have e10 : p3 = 1 := by
            obtain ⟨w, w1, w2, rfl⟩ := rg_of (a := 0) (b := 1) (by omega) (by omega) e3
            rcases (show w = 0 ∨ w = 1 by omega) with rfl | rfl
            · exact absurd rfl ep
            · rfl
          rw [if_pos e10, if_neg ep]
          exact ⟨_, rfl, rfl⟩
      · simp only [if_neg e3, ↓reduceIte]
        exact ⟨_, rfl, rfl⟩
    · simp only [if_neg e2, ↓reduceIte]
      exact ⟨_, rfl, rfl⟩
  · simp only [if_neg e1, ↓reduceIte]
    exact ⟨_, rfl, rfl⟩
