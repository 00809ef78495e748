theorem pu_bad {n c : Nat} {people bride count hands mpeople mshots mbride mhands : Int32} {looks bits mlooks : Nat → Int32} (hsh : R_sh n c people bride count hands looks bits mpeople mshots mlooks mbride mhands) {tired mtired : Int32} {Q mQ : Nat → Int32} (hod : R_od tired Q mQ mtired) (p1 p2 : Int32) :
    ∃ r tired' Q' mtired' mQ', f_X8_bad people tired Q p1 p2 = some (r, tired', Q') ∧ f_X9_bad mpeople mQ mtired p1 p2 = some (r, mtired', mQ') ∧ R_od tired' Q' mQ' mtired' := by
  obtain ⟨⟨n1, n2, n3⟩, ⟨rfl, rfl, rfl, rfl⟩, -⟩ := hsh
  obtain ⟨rfl, ht, hq⟩ := id hod
  unfold f_X8_bad f_X9_bad f_X2_changeTired f_X2_changeQuarters
  simp only [lc]
  by_cases em : p1 = -1
  · simp only [if_pos em]
    rw [within_eq, in_eq2 (a := 0) (b := 20) (by decide) (by decide)]
    simp only [bd_some]
    by_cases e : (0 : Int32) ≤ p2 ∧ p2 ≤ 20
    · simp only [if_pos e, one_ne, ↓reduceIte]
      obtain ⟨t, t1, t2, rfl⟩ := rg_of (a := 0) (b := 20) (by omega) (by omega) e
      exact ⟨_, _, _, _, _, rfl, rfl, rfl, ⟨t, t2, rfl⟩, hq⟩
    · simp only [if_neg e, ↓reduceIte]
      exact ⟨_, _, _, _, _, rfl, rfl, hod⟩
  · simp only [if_neg em]
    rw [has_eq (by omega) (by omega), isPerson_eq (by omega) (by omega)]
    simp only [bd_some]
    by_cases ep : 0 ≤ p1 ∧ p1 ≤ nI (n - 1)
    · simp only [if_pos ep, one_ne, ↓reduceIte]
      obtain ⟨j, hj, rfl⟩ := per_of (by omega) (by omega) ep
      rw [within_eq, in_eq2 (a := 0) (b := 4) (by decide) (by decide)]
      simp only [bd_some]
      by_cases e : (0 : Int32) ≤ p2 ∧ p2 ≤ 4
      · simp only [if_pos e, one_ne, ↓reduceIte]
        obtain ⟨t, t1, t2, rfl⟩ := rg_of (a := 0) (b := 4) (by omega) (by omega) e
        obtain ⟨q, q1, q2, q3⟩ := hq j (by omega)
        rw [ld_n (by omega) (by omega), ld_n (by omega) (by omega), sti_n (by omega) (by omega), sti_n (by omega) (by omega), q2, q3]
        simp only [bd_some]
        refine ⟨_, _, _, _, _, rfl, rfl, rfl, ht, fun k hk => ?_⟩
        by_cases ek : k = j
        · subst ek; exact ⟨t, t2, upd_s, upd_s⟩
        · rw [upd_n ek, upd_n ek]; exact hq k hk
      · simp only [if_neg e, ↓reduceIte]
        exact ⟨_, _, _, _, _, rfl, rfl, hod⟩
    · simp only [if_neg ep, ↓reduceIte]
      exact ⟨_, _, _, _, _, rfl, rfl, hod⟩
/-- the quarters of a person in a shot to come -/
theorem quart_n {tired : Int32} {Q mQ : Nat → Int32} (hod : R_od tired Q mQ tired) (shot : Int32) {k : Nat} (hk : k < 8) : ∃ v, v ≤ 4 ∧ f_X2_quartersIn tired Q shot (nI k) = some (nI v) ∧ f_X9_quartersOf mQ tired (nI k) shot = some (nI v) := by
  obtain ⟨-, -, hq⟩ := hod
  obtain ⟨q, q1, q2, q3⟩ := hq k hk
  unfold f_X2_quartersIn f_X9_quartersOf
  simp only [lc, ld_n hk (show 8 < 2 ^ 31 by omega), q2, q3, bd_some, nI_1]
  by_cases e : tired ≤ shot
  · rw [if_pos e, if_neg (by rw [fa_lt]; rw [fa_le] at e; omega), l_4, imin_n (by omega) (by omega)]
    simp only [nI_leI (show q + 1 < 2 ^ 31 by omega) (show 4 < 2 ^ 31 by omega)]
    refine ⟨min 4 (q + 1), by omega, rfl, ?_⟩
    split
    · rw [Nat.min_eq_right (by omega)]
    · rw [Nat.min_eq_left (by omega)]
  · rw [if_neg e, if_pos (by rw [fa_lt]; rw [fa_le] at e; omega), l_4]
    simp only [nI_leI (show q < 2 ^ 31 by omega) (show 4 < 2 ^ 31 by omega), if_pos q1]
    exact ⟨q, q1, rfl, rfl⟩
theorem ways_n {tired : Int32} {Q mQ : Nat → Int32} (hod : R_od tired Q mQ tired) {n N : Nat} (n2 : n ≤ 8) (hN : 100 < N) (shot : Int32) : ∃ w, w ≤ 4 ^ n ∧ f_X2_waysAllOpen N tired Q shot (nI n) = some (lN w) ∧ f_X9_allOpen N (nI n) mQ tired shot = some (lN w) := by
  unfold f_X2_waysAllOpen f_X9_allOpen
  simp only [lc]
  refine lpI (fun f i (z : Int64) => (f_X2_waysAllOpen_L5 tired Q shot (nI n) (fun z => some z) f z (nI i), f_X9_allOpen_L5 (nI n) mQ tired shot (fun z => some z) f z (nI i))) n (fun i z => ∃ w, w ≤ 4 ^ i ∧ z = lN w) (fun z => ∃ w, w ≤ 4 ^ n ∧ z.1 = some (lN w) ∧ z.2 = some (lN w)) ?_ ?_ N 0 1 (by omega) (by omega) ⟨1, by omega, rfl⟩
  · rintro f i _ hi ⟨w, w1, rfl⟩ ih
    dsimp only at ih ⊢
    obtain ⟨v, v1, v2, v3⟩ := quart_n hod shot (show i < 8 by omega)
    rw [f_X2_waysAllOpen_L5, f_X9_allOpen_L5, if_neg (nI_ge hi (by omega)), if_neg (nI_ge hi (by omega)), v2, v3, bd_some, bd_some, l_4, pk_sub v1, nI_l (by omega), lN_mul, nI_1]
    refine ih _ ⟨w * (4 - v), ?_, rfl⟩
    rw [Nat.pow_succ]
    exact Nat.mul_le_mul w1 (by omega)
  · rintro f _ ⟨w, w1, rfl⟩
    dsimp only
    rw [f_X2_waysAllOpen_L5, f_X9_allOpen_L5, if_pos (Int32.le_refl _), if_pos (Int32.le_refl _)]
    exact ⟨w, w1, rfl, rfl⟩
theorem shlL {k : Nat} (hk : k < 64) : (1 : Int64) <<< (Int32.toInt64 (nI k) &&& 63) = lN (2 ^ k) := by
  have := wb_shl 1 hk
  rw [Nat.one_mul] at this
  exact this
theorem waysOf_n {m n : Nat} (hm : m ≤ 3) (hn : n ≤ 8) : f_X2_waysOf (nI m) (nI n) = some (lN (2 ^ (2 * n * m))) := by
  have h1 : 2 * m * n = 2 * n * m := by rw [Nat.mul_assoc, Nat.mul_assoc, Nat.mul_comm m n]
  have h2 : n * m ≤ 8 * 3 := Nat.mul_le_mul hn hm
  have h3 : 2 * n * m < 64 := by rw [Nat.mul_assoc]; omega
  unfold f_X2_waysOf
  rw [l_2, pk_mul, pk_mul, h1, shlL h3]
theorem mWays_n {m n : Nat} (hm : m ≤ 3) (hn : n ≤ 8) : (1 : Int64) <<< (Int32.toInt64 (((2 : Int32) * nI n) * nI m) &&& 63) = lN (2 ^ (2 * n * m)) := by
  have h2 : n * m ≤ 8 * 3 := Nat.mul_le_mul hn hm
  have h3 : 2 * n * m < 64 := by rw [Nat.mul_assoc]; omega
  rw [l_2, pk_mul, pk_mul, shlL h3]
theorem mWays1_n {n : Nat} (hn : n ≤ 8) : (1 : Int64) <<< (Int32.toInt64 ((2 : Int32) * nI n) &&& 63) = lN (2 ^ (2 * n)) := by
  rw [l_2, pk_mul, shlL (by omega)]
/-- halving is enough, where the lower number is a power of two -/
theorem odd_cop {u m : Nat} (h : u % 2 = 1) : Nat.gcd u (2 ^ m) = 1 := by
  have : Nat.Coprime u 2 := by
    rw [Nat.coprime_comm]
    show Nat.gcd 2 u = 1
    rw [Nat.gcd_rec, h]
    exact Nat.gcd_one_left 2
  exact this.pow_right m
theorem lowest_n {U k N : Nat} (hk : k ≤ 48) (hU : U < 2 ^ 62) (hN : 2 ^ 62 < N) (p3 : Int32) : ∃ r, f_X8_lowest N (lN U) (lN (2 ^ k)) p3 = some r ∧ f_X9_lowest N (lN U) (lN (2 ^ k)) p3 = some r := by
  have k48 : 2 ^ k ≤ 2 ^ 48 := Nat.pow_le_pow_right (by omega) hk
  have kp : 0 < 2 ^ k := Nat.two_pow_pos k
  have cls : ∀ K : Int64 → Int64 → Option Int64, ∃ u m i, U = 2 ^ i * u ∧ k = i + m ∧ Nat.gcd u (2 ^ m) = 1 ∧ f_X8_lowest_L9 K N (lN U) (lN (2 ^ k)) 0 = K (lN u) (lN (2 ^ m)) := by
    intro K
    refine lpI (fun f i (z : Nat × Nat) => f_X8_lowest_L9 K f (lN z.1) (lN (2 ^ z.2)) (nI i)) k (fun i z => U = 2 ^ i * z.1 ∧ k = i + z.2) (fun z => ∃ u m i, U = 2 ^ i * u ∧ k = i + m ∧ Nat.gcd u (2 ^ m) = 1 ∧ z = K (lN u) (lN (2 ^ m))) ?_ ?_ N 0 (U, k) (by omega) (by omega) ⟨by omega, by omega⟩
    · rintro f i ⟨u, m⟩ hi ⟨h1, h2⟩ ih
      dsimp only at h1 h2 ih ⊢
      have hu : u ≤ U := by rw [h1]; exact Nat.le_mul_of_pos_left _ (Nat.two_pow_pos _)
      have m1 : 1 ≤ m := by omega
      have m48 : 2 ^ m ≤ 2 ^ 48 := Nat.pow_le_pow_right (by omega) (by omega)
      have m2 : 2 ≤ 2 ^ m := Nat.pow_le_pow_right (n := 2) (i := 1) (by omega) m1
      rw [f_X8_lowest_L9, if_neg (show ¬ (64 : Int32) ≤ nI i from nI_ge (b := 64) (by omega) (by omega))]
      simp only [lg_cmp_le, lg_cmp_eq]
      rw [if_neg (show ¬ lN (2 ^ m) ≤ (1 : Int64) from fun h => by have := (pk_lLE (b := 1) (by omega) (by omega)).mp h; omega)]
      have r1 : lrm (lN u) (2 : Int64) = some (lN (u % 2)) := by
        unfold lrm
        rw [if_neg (by decide)]
        exact congrArg some (pk_lRem (b := 2) (by omega) (by omega) (by omega))
      have r2 : ldv (lN u) (2 : Int64) = some (lN (u / 2)) := by
        unfold ldv
        rw [if_neg (by decide)]
        exact congrArg some (pk_lDiv (b := 2) (by omega) (by omega) (by omega))
      have r3 : ldv (lN (2 ^ m)) (2 : Int64) = some (lN (2 ^ (m - 1))) := by
        unfold ldv
        rw [if_neg (by decide)]
        have e : 2 ^ m / 2 = 2 ^ (m - 1) := by
          obtain ⟨m', rfl⟩ : ∃ m', m = m' + 1 := ⟨m - 1, by omega⟩
          rw [Nat.pow_succ, Nat.mul_div_cancel _ (by omega)]
          rfl
        rw [← e]
        exact congrArg some (pk_lDiv (b := 2) (by omega) (by omega) (by omega))
      rw [r1, bd_some]
      by_cases e : u % 2 = 0
      · rw [if_pos (show lN (u % 2) = 0 by rw [e]; rfl), r2, r3, bd_some, bd_some, nI_1]
        refine ih (u / 2, m - 1) ⟨?_, by dsimp only; omega⟩
        dsimp only
        rw [Nat.pow_succ, Nat.mul_assoc, show 2 * (u / 2) = u by omega]
        exact h1
      · rw [if_neg (show ¬ lN (u % 2) = 0 from fun h => by have := (pk_lEQ (b := 0) (by omega) (by omega)).mp h; omega)]
        exact ⟨u, m, i, h1, h2, odd_cop (by omega), rfl⟩
    · rintro f ⟨u, m⟩ ⟨h1, h2⟩
      dsimp only at h1 h2 ⊢
      have m0 : m = 0 := by omega
      subst m0
      rw [f_X8_lowest_L9, if_neg (show ¬ (64 : Int32) ≤ nI k from nI_ge (b := 64) (by omega) (by omega))]
      simp only [lg_cmp_le]
      rw [if_pos (show lN (2 ^ 0) ≤ (1 : Int64) by decide)]
      exact ⟨u, 0, k, h1, h2, Nat.gcd_one_right u, rfl⟩
  have mdl : ∀ K : Int64 → Option Int64, f_X9_lowest_L6 K N (lN (2 ^ k)) (lN U) = K (lN (Nat.gcd (2 ^ k) U)) := by
    intro K
    refine lpM (fun f (z : Nat × Nat) => f_X9_lowest_L6 K f (lN z.1) (lN z.2)) (fun z => z.2) (fun z => z.1 < 2 ^ 62 ∧ z.2 < 2 ^ 62 ∧ Nat.gcd z.1 z.2 = Nat.gcd (2 ^ k) U) (fun z => z = K (lN (Nat.gcd (2 ^ k) U))) ?_ N (2 ^ k, U) (by dsimp only; omega) ⟨by dsimp only; omega, hU, rfl⟩
    rintro f ⟨x, y⟩ ⟨h1, h2, h3⟩ ih
    dsimp only at h1 h2 h3 ih ⊢
    rw [f_X9_lowest_L6]
    simp only [lg_cmp_eq]
    by_cases e : y = 0
    · subst e
      rw [if_pos (show lN 0 = 0 from rfl), ← h3, Nat.gcd_zero_right]
    · rw [if_neg (show ¬ lN y = 0 from fun h => e ((pk_lEQ (b := 0) (by omega) (by omega)).mp h))]
      have r1 : lrm (lN x) (lN y) = some (lN (x % y)) := by
        unfold lrm
        rw [if_neg (show ¬ lN y = 0 from fun h => e ((pk_lEQ (b := 0) (by omega) (by omega)).mp h)), pk_lRem (by omega) (by omega) (by omega)]
      rw [r1, bd_some]
      have hm : x % y < y := Nat.mod_lt _ (by omega)
      exact ih (y, x % y) ⟨h2, by dsimp only; omega, by dsimp only; rw [Nat.gcd_comm, ← Nat.gcd_rec, Nat.gcd_comm, h3]⟩ hm
  unfold f_X8_lowest f_X9_lowest
  simp only [lc]
  obtain ⟨u, m, i, h1, h2, h3, h4⟩ := cls (fun z6 z7 => if p3 = 0 then some z6 else some z7)
  rw [h4, mdl]
  have g : Nat.gcd (2 ^ k) U = 2 ^ i := by
    rw [h1, h2, Nat.pow_add, Nat.gcd_mul_left, Nat.gcd_comm, h3, Nat.mul_one]
  have ip : 0 < 2 ^ i := Nat.two_pow_pos i
  have i48 : 2 ^ i ≤ 2 ^ 48 := Nat.pow_le_pow_right (by omega) (by omega)
  rw [g]
  have d1 : ldv (lN U) (lN (2 ^ i)) = some (lN u) := by
    unfold ldv
    rw [if_neg (show ¬ lN (2 ^ i) = 0 from fun h => by have := (pk_lEQ (b := 0) (by omega) (by omega)).mp h; omega), pk_lDiv (by omega) ip (by omega), h1, Nat.mul_div_cancel_left _ ip]
  have d2 : ldv (lN (2 ^ k)) (lN (2 ^ i)) = some (lN (2 ^ m)) := by
    unfold ldv
    rw [if_neg (show ¬ lN (2 ^ i) = 0 from fun h => by have := (pk_lEQ (b := 0) (by omega) (by omega)).mp h; omega), pk_lDiv (by omega) ip (by omega), h2, Nat.pow_add, Nat.mul_div_cancel_left _ ip]
  rw [d1, d2, bd_some, bd_some]
  split <;> exact ⟨_, rfl, rfl⟩
theorem pu_likely {n c : Nat} {people bride count hands mpeople mshots mbride mhands : Int32} {looks bits mlooks : Nat → Int32} (hsh : R_sh n c people bride count hands looks bits mpeople mshots mlooks mbride mhands) {tired mtired : Int32} {Q mQ : Nat → Int32} (hod : R_od tired Q mQ mtired) (p1 p2 : Int32) :
    ∃ N r, f_X8_likely N people tired Q p1 p2 = some r ∧ f_X9_likely N mpeople mQ mtired p1 p2 = some r := by
  obtain ⟨⟨n1, n2, n3⟩, ⟨rfl, rfl, rfl, rfl⟩, -⟩ := hsh
  obtain ⟨rfl, -⟩ := id hod
  refine ⟨2 ^ 63, ?_⟩
  unfold f_X8_likely f_X9_likely
  rw [within_eq, in_eq2 (a := 0) (b := 20) (by decide) (by decide)]
  simp only [bd_some, lc]
  by_cases e1 : (0 : Int32) ≤ p1 ∧ p1 ≤ 20
  · simp only [if_pos e1, one_ne, ↓reduceIte]
    rw [within_eq, in_eq2 (a := 0) (b := 1) (by decide) (by decide)]
    simp only [bd_some]
    by_cases e2 : (0 : Int32) ≤ p2 ∧ p2 ≤ 1
    · simp only [if_pos e2, one_ne, ↓reduceIte]
      obtain ⟨w, w1, w2, w3⟩ := ways_n hod (N := 2 ^ 63) n2 (by omega) p1
      have h4 : 4 ^ n ≤ 4 ^ 8 := Nat.pow_le_pow_right (by omega) n2
      rw [w2, w3, mWays1_n n2, l_1, waysOf_n (by omega) n2, Nat.mul_one]
      simp only [bd_some]
      obtain ⟨r, r1, r2⟩ := lowest_n (U := w) (k := 2 * n) (N := 2 ^ 63) (by omega) (by omega) (by omega) p2
      rw [r1, r2]
      exact ⟨r, rfl, rfl⟩
    · simp only [if_neg e2, ↓reduceIte]
      exact ⟨_, rfl, rfl⟩
  · simp only [if_neg e1, ↓reduceIte]
    exact ⟨_, rfl, rfl⟩
/-- none of m shots has all: the same number -/
theorem none_n {tired : Int32} {Q mQ : Nat → Int32} (hod : R_od tired Q mQ tired) {n m N : Nat} (n2 : n ≤ 8) (hm : m ≤ 3) (hN : 100 < N) : ∃ u, u ≤ 2 ^ (2 * n * m) ∧ f_X2_waysOneOf N tired Q (nI m) (nI n) = some (lN (2 ^ (2 * n * m) - u)) ∧ f_X9_noneOf N (nI n) mQ tired (nI m) = some (lN u) := by
  unfold f_X2_waysOneOf f_X9_noneOf
  simp only [lc, waysOf_n hm n2, bd_some]
  have key : ∃ u, u ≤ 2 ^ (2 * n * m) ∧ f_X2_waysOneOf_L5 tired Q (nI m) (nI n) N (fun z => some (lN (2 ^ (2 * n * m)) - z)) N 1 0 = some (lN (2 ^ (2 * n * m)) - lN u) ∧ f_X9_noneOf_L5 (nI n) mQ tired (nI m) N (fun z => some z) N 1 0 = some (lN u) := by
    refine lpI (fun f i (z : Int64) => (f_X2_waysOneOf_L5 tired Q (nI m) (nI n) N (fun z => some (lN (2 ^ (2 * n * m)) - z)) f z (nI i), f_X9_noneOf_L5 (nI n) mQ tired (nI m) N (fun z => some z) f z (nI i))) m (fun i z => ∃ u, u ≤ 2 ^ (2 * n * i) ∧ z = lN u) (fun z => ∃ u, u ≤ 2 ^ (2 * n * m) ∧ z.1 = some (lN (2 ^ (2 * n * m)) - lN u) ∧ z.2 = some (lN u)) ?_ ?_ N 0 1 (by omega) (by omega) ⟨1, by simp, rfl⟩
    · rintro f i _ hi ⟨u, u1, rfl⟩ ih
      dsimp only at ih ⊢
      obtain ⟨w, w1, w2, w3⟩ := ways_n hod (N := N) n2 hN (nI i)
      have h4 : 4 ^ n = 2 ^ (2 * n) := by rw [show 4 = 2 ^ 2 from rfl, ← Nat.pow_mul]
      rw [f_X2_waysOneOf_L5, f_X9_noneOf_L5, if_neg (nI_ge hi (by omega)), if_neg (nI_ge hi (by omega)), w2, w3, mWays1_n n2, l_1, waysOf_n (by omega) n2, Nat.mul_one]
      simp only [bd_some]
      rw [lN_sub (by omega), lN_mul, nI_add]
      refine ih _ ⟨u * (2 ^ (2 * n) - w), ?_, rfl⟩
      rw [Nat.mul_succ, Nat.pow_add]
      exact Nat.mul_le_mul u1 (by omega)
    · rintro f _ ⟨u, u1, rfl⟩
      dsimp only
      rw [f_X2_waysOneOf_L5, f_X9_noneOf_L5, if_pos (Int32.le_refl _), if_pos (Int32.le_refl _)]
      exact ⟨u, u1, rfl, rfl⟩
  obtain ⟨u, u1, u2, u3⟩ := key
  rw [u2, u3, lN_sub u1]
  exact ⟨u, u1, rfl, rfl⟩
theorem pu_one {n c : Nat} {people bride count hands mpeople mshots mbride mhands : Int32} {looks bits mlooks : Nat → Int32} (hsh : R_sh n c people bride count hands looks bits mpeople mshots mlooks mbride mhands) {tired mtired : Int32} {Q mQ : Nat → Int32} (hod : R_od tired Q mQ mtired) (p1 p2 : Int32) :
    ∃ N r, f_X8_one N people tired Q p1 p2 = some r ∧ f_X9_one N mpeople mQ mtired p1 p2 = some r := by
  obtain ⟨⟨n1, n2, n3⟩, ⟨rfl, rfl, rfl, rfl⟩, -⟩ := hsh
  obtain ⟨rfl, -⟩ := id hod
  refine ⟨2 ^ 63, ?_⟩
  unfold f_X8_one f_X9_one
  rw [within_eq, in_eq2 (a := 1) (b := 3) (by decide) (by decide)]
  simp only [bd_some, lc]
  by_cases e1 : (1 : Int32) ≤ p1 ∧ p1 ≤ 3
  · simp only [if_pos e1, one_ne, ↓reduceIte]
    rw [within_eq, in_eq2 (a := 0) (b := 1) (by decide) (by decide)]
    simp only [bd_some]
    by_cases e2 : (0 : Int32) ≤ p2 ∧ p2 ≤ 1
    · simp only [if_pos e2, one_ne, ↓reduceIte]
      obtain ⟨m, m1, m2, rfl⟩ := rg_of (a := 1) (b := 3) (by omega) (by omega) e1
      obtain ⟨u, u1, u2, u3⟩ := none_n hod (N := 2 ^ 63) n2 m2 (by omega)
      have h2 : n * m ≤ 8 * 3 := Nat.mul_le_mul n2 m2
      have h3 : 2 * n * m ≤ 48 := by rw [Nat.mul_assoc]; omega
      have h4 : 2 ^ (2 * n * m) ≤ 2 ^ 48 := Nat.pow_le_pow_right (by omega) h3
      rw [u2, u3, waysOf_n m2 n2, mWays_n m2 n2]
      simp only [bd_some]
      rw [lN_sub u1]
      obtain ⟨r, r1, r2⟩ := lowest_n (U := 2 ^ (2 * n * m) - u) (k := 2 * n * m) (N := 2 ^ 63) h3 (by omega) (by omega) p2
      rw [r1, r2]
      exact ⟨r, rfl, rfl⟩
    · simp only [if_neg e2, ↓reduceIte]
      exact ⟨_, rfl, rfl⟩
  · simp only [if_neg e1, ↓reduceIte]
    exact ⟨_, rfl, rfl⟩
theorem pu_many {n c : Nat} {people bride count hands mpeople mshots mbride mhands : Int32} {looks bits mlooks : Nat → Int32} (hsh : R_sh n c people bride count hands looks bits mpeople mshots mlooks mbride mhands) {tired mtired : Int32} {Q mQ : Nat → Int32} (hod : R_od tired Q mQ mtired) (p1 p2 : Int32) :
    ∃ N r, f_X8_many N people tired Q p1 p2 = some r ∧ f_X9_many N mpeople mQ mtired p1 p2 = some r := by
  obtain ⟨⟨n1, n2, n3⟩, ⟨rfl, rfl, rfl, rfl⟩, -⟩ := hsh
  obtain ⟨rfl, -⟩ := id hod
  refine ⟨1000, ?_⟩
  unfold f_X8_many f_X9_many
  rw [within_eq, in_eq2 (a := 1) (b := 100) (by decide) (by decide)]
  simp only [bd_some, lc]
  by_cases e1 : (1 : Int32) ≤ p2 ∧ p2 ≤ 100
  · simp only [if_pos e1, one_ne, ↓reduceIte]
    rw [within_eq, in_eq2 (a := 0) (b := p2) (by decide) rfl]
    simp only [bd_some]
    by_cases e2 : (0 : Int32) ≤ p1 ∧ p1 ≤ p2
    · simp only [if_pos e2, one_ne, ↓reduceIte]
      refine lpI (fun f i (_ : Unit) => (f_X8_many_L24 (nI n) mtired Q p1 p2 1000 (some (-6)) f (nI i), f_X9_many_L28 (nI n) mQ mtired p1 p2 1000 (some (-6)) f (nI i))) 4 (fun i _ => 1 ≤ i) (fun z => ∃ r, z.1 = some r ∧ z.2 = some r) ?_ ?_ 1000 1 () (by omega) (by omega) (by omega)
      · intro f i _ hi h1 ih
        dsimp only at ih ⊢
        obtain ⟨u, u1, u2, u3⟩ := none_n hod (N := 1000) n2 (show i ≤ 3 by omega) (by omega)
        rw [f_X8_many_L24, f_X9_many_L28, if_neg (show ¬ (3 : Int32) < nI i from nI_nlt (a := 3) (by omega) (by omega)), if_neg (show ¬ (4 : Int32) ≤ nI i from nI_ge (b := 4) (by omega) (by omega)), u2, u3, waysOf_n (by omega) n2, mWays_n (by omega) n2]
        simp only [bd_some]
        rw [lN_sub u1, Int64.mul_comm p1.toInt64, nI_1]
        split
        · exact ih () (by omega)
        · exact ⟨_, rfl, rfl⟩
      · intro f _ _
        dsimp only
        rw [f_X8_many_L24, f_X9_many_L28, if_pos (show (3 : Int32) < nI 4 by decide), if_pos (show (4 : Int32) ≤ nI 4 by decide)]
        exact ⟨_, rfl, rfl⟩
    · simp only [if_neg e2, ↓reduceIte]
      exact ⟨_, rfl, rfl⟩
  · simp only [if_neg e1, ↓reduceIte]
    exact ⟨_, rfl, rfl⟩
