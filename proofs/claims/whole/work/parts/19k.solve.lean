def okN (C r : Nat) (T H : Nat → Nat) (i a j b : Nat) : Bool := decide (a ≠ b ∧ wbN C r T H i a j b = 0 ∧ wbN C r T H j b i a = 0)
theorem bitOf_n {j b : Nat} (hj : j < 8) (hb : b < 8) : f_X4_bitOf (nI j) (nI b) = some (lN (2 ^ (8 * j + b))) := by
  unfold f_X4_bitOf
  rw [l_8, pk_mul, nI_add, Nat.mul_comm j 8, shlL (by omega)]
theorem or_lt {w x : Nat} (hw : w < 2 ^ 64) (hx : x < 64) : w ||| 2 ^ x < 2 ^ 64 := Nat.or_lt_two_pow hw (Nat.pow_lt_pow_right (by decide) hx)
theorem or_b {w j b j' b' : Nat} (hb : b < 8) (hb' : b' < 8) : (w ||| 2 ^ (8 * j + b)).testBit (8 * j' + b') = (w.testBit (8 * j' + b') || decide (j' = j ∧ b' = b)) := by
  rw [Nat.testBit_or, Nat.testBit_two_pow]
  congr 1
  rw [Bool.eq_iff_iff]
  simp only [decide_eq_true_eq]
  omega
section Sol
variable {R C r n : Nat} {T H : Nat → Nat} {talls pairs mtall mpairs : Nat → Int32}
theorem suits_n (c1 : 1 ≤ C) (c2 : C ≤ 4) (hr : r ≤ 50) (hT : ∀ k, k < 8 → T k ≤ 250 ∧ talls k = nI (T k) ∧ mtall k = nI (T k)) (hH : ∀ k, k < 64 → H k ≤ 2 ∧ pairs k = nI (H k) ∧ mpairs k = nI (H k)) {i a j b : Nat} (hi : i < 8) (hj : j < 8) (ha : a < 8) (hb : b < 8) :
    f_X7_suits (nI C) (nI r) talls pairs (nI i) (nI a) (nI j) (nI b) = some (if okN C r T H i a j b then 1 else 0) := by
  unfold f_X7_suits okN
  have w1 := wb_le (C := C) (r := r) (T := T) (H := H) i a j b
  have w2 := wb_le (C := C) (r := r) (T := T) (H := H) j b i a
  have z1 : (nI (wbN C r T H i a j b) = 0) ↔ wbN C r T H i a j b = 0 := nI_eq (b := 0) (by omega) (by omega)
  have z2 : (nI (wbN C r T H j b i a) = 0) ↔ wbN C r T H j b i a = 0 := nI_eq (b := 0) (by omega) (by omega)
  rw [wb_n c1 c2 hr hT hH hi hj ha hb, wb_n c1 c2 hr hT hH hj hi hb ha]
  simp only [bd_some, nI_eq (show a < 2 ^ 31 by omega) (show b < 2 ^ 31 by omega), z1, z2]
  by_cases e : a = b
  · simp [e]
  · by_cases e1 : wbN C r T H i a j b = 0
    · by_cases e2 : wbN C r T H j b i a = 0
      · simp [e, e1, e2]
      · simp [e, e1, e2]
    · simp [e, e1]
theorem left_n {N : Nat} (hN : 20 < N) (hP : R * C ≤ 8) (hn : n ≤ 8) (c1 : 1 ≤ C) (c2 : C ≤ 4) (hr : r ≤ 50) (hT : ∀ k, k < 8 → T k ≤ 250 ∧ talls k = nI (T k) ∧ mtall k = nI (T k)) (hH : ∀ k, k < 64 → H k ≤ 2 ∧ pairs k = nI (H k) ∧ mpairs k = nI (H k)) {i a : Nat} (hi : i < n) (ha : a < R * C) :
    ∃ w, f_X4_leftBehind N (nI n) (nI R) (nI C) (nI r) talls pairs (nI i) (nI a) = some (lN w) ∧ w < 2 ^ 64 ∧ ∀ j b, i < j → j < n → b < 8 → w.testBit (8 * j + b) = (decide (b < R * C) && okN C r T H i a j b) := by
  unfold f_X4_leftBehind
  rw [lc, nI_1]
  refine lpI (fun f j (w : Nat) => f_X4_leftBehind_L8 (nI n) (nI R) (nI C) (nI r) talls pairs (nI i) (nI a) N (fun z5 => some z5) f (lN w) (nI j)) n (fun j w => i < j ∧ w < 2 ^ 64 ∧ ∀ j' b', b' < 8 → (w.testBit (8 * j' + b') = true ↔ i < j' ∧ j' < j ∧ b' < R * C ∧ okN C r T H i a j' b' = true)) (fun z => ∃ w, z = some (lN w) ∧ w < 2 ^ 64 ∧ ∀ j b, i < j → j < n → b < 8 → w.testBit (8 * j + b) = (decide (b < R * C) && okN C r T H i a j b)) ?_ ?_ N (i + 1) 0 (by omega) (by omega) ⟨by omega, by decide, fun j' b' _ => by rw [Nat.zero_testBit]; simp; omega⟩
  · rintro f j w hj ⟨hij, h1, h2⟩ ih
    try dsimp only at ih ⊢
    rw [f_X4_leftBehind_L8, if_neg (nI_ge hj (by omega)), lc, nI_1]
    refine lpI (fun f' b (w : Nat) => f_X4_leftBehind_L20 (nI R) (nI C) (nI r) talls pairs (nI i) (nI a) (nI j) (fun z10 => f_X4_leftBehind_L8 (nI n) (nI R) (nI C) (nI r) talls pairs (nI i) (nI a) N (fun z5 => some z5) f z10 (nI (j + 1))) f' (lN w) (nI b)) (R * C) (fun b w => w < 2 ^ 64 ∧ ∀ j' b', b' < 8 → (w.testBit (8 * j' + b') = true ↔ i < j' ∧ (j' < j ∨ (j' = j ∧ b' < b)) ∧ b' < R * C ∧ okN C r T H i a j' b' = true)) (fun z => ∃ w, z = some (lN w) ∧ w < 2 ^ 64 ∧ ∀ j b, i < j → j < n → b < 8 → w.testBit (8 * j + b) = (decide (b < R * C) && okN C r T H i a j b)) ?_ ?_ N 0 w (by omega) (by omega) ⟨h1, fun j' b' hb' => by rw [h2 j' b' hb']; constructor <;> (rintro ⟨a1, a2, a3⟩; exact ⟨a1, by omega, a3⟩)⟩
    · rintro f' b w hb ⟨g1, g2⟩ ihl
      try dsimp only at ihl ⊢
      rw [f_X4_leftBehind_L20]
      unfold f_X7_places
      rw [pk_mul, bd_some, if_neg (nI_ge hb (by omega)), suits_n c1 c2 hr hT hH (show i < 8 by omega) (show j < 8 by omega) (show a < 8 by omega) (show b < 8 by omega), bd_some, lc, nI_1, bitOf_n (by omega) (by omega), bd_some]
      by_cases e : okN C r T H i a j b = true
      · simp only [if_pos e, one_ne, ↓reduceIte]
        rw [wb_or g1 (Nat.pow_lt_pow_right (by decide) (by omega))]
        refine ihl (w ||| 2 ^ (8 * j + b)) ⟨or_lt g1 (by omega), fun j' b' hb' => ?_⟩
        rw [or_b (by omega) hb', Bool.or_eq_true, g2 j' b' hb', decide_eq_true_eq]
        constructor
        · rintro (⟨a1, a2, a3⟩ | ⟨rfl, rfl⟩)
          · exact ⟨a1, by omega, a3⟩
          · exact ⟨by omega, by omega, hb, e⟩
        · rintro ⟨a1, a2, a3, a4⟩
          by_cases e' : j' = j ∧ b' = b
          · exact Or.inr e'
          · exact Or.inl ⟨a1, by omega, a3, a4⟩
      · simp only [if_neg e, ↓reduceIte]
        refine ihl w ⟨g1, fun j' b' hb' => ?_⟩
        rw [g2 j' b' hb']
        constructor
        · rintro ⟨a1, a2, a3⟩; exact ⟨a1, by omega, a3⟩
        · rintro ⟨a1, a2, a3, a4⟩
          refine ⟨a1, ?_, a3, a4⟩
          by_cases e' : j' = j ∧ b' = b
          · obtain ⟨rfl, rfl⟩ := e'; exact absurd a4 e
          · omega
    · rintro f' w ⟨g1, g2⟩
      try dsimp only
      rw [f_X4_leftBehind_L20]
      unfold f_X7_places
      rw [pk_mul, bd_some, if_pos (Int32.le_refl _)]
      refine ih w ⟨by omega, g1, fun j' b' hb' => ?_⟩
      rw [g2 j' b' hb']
      constructor <;> (rintro ⟨a1, a2, a3, a4⟩; exact ⟨a1, by omega, a3, a4⟩)
  · rintro f w ⟨-, h1, h2⟩
    try dsimp only
    rw [f_X4_leftBehind_L8, if_pos (Int32.le_refl _)]
    refine ⟨w, rfl, h1, fun j b j1 j2 hb => ?_⟩
    rw [Bool.eq_iff_iff, h2 j b hb, Bool.and_eq_true, decide_eq_true_eq]
    constructor
    · rintro ⟨a1, a2, a3⟩; exact a3
    · intro a3; exact ⟨j1, j2, a3⟩
theorem all_n {N : Nat} (hN : 20 < N) (hP : R * C ≤ 8) (hn : n ≤ 8) : ∃ w, f_X4_allPlaces N (nI n) (nI R) (nI C) = some (lN w) ∧ w < 2 ^ 64 ∧ ∀ j b, j < n → b < 8 → w.testBit (8 * j + b) = decide (b < R * C) := by
  unfold f_X4_allPlaces
  rw [lc]
  refine lpI (fun f j (w : Nat) => f_X4_allPlaces_L5 (nI n) (nI R) (nI C) N (fun z5 => some z5) f (lN w) (nI j)) n (fun j w => w < 2 ^ 64 ∧ ∀ j' b', b' < 8 → (w.testBit (8 * j' + b') = true ↔ j' < j ∧ b' < R * C)) (fun z => ∃ w, z = some (lN w) ∧ w < 2 ^ 64 ∧ ∀ j b, j < n → b < 8 → w.testBit (8 * j + b) = decide (b < R * C)) ?_ ?_ N 0 0 (by omega) (by omega) ⟨by decide, fun j' b' _ => by rw [Nat.zero_testBit]; simp⟩
  · rintro f j w hj ⟨h1, h2⟩ ih
    try dsimp only at ih ⊢
    rw [f_X4_allPlaces_L5, if_neg (nI_ge hj (by omega)), lc, nI_1]
    refine lpI (fun f' b (w : Nat) => f_X4_allPlaces_L17 (nI R) (nI C) (nI j) (fun z10 => f_X4_allPlaces_L5 (nI n) (nI R) (nI C) N (fun z5 => some z5) f z10 (nI (j + 1))) f' (lN w) (nI b)) (R * C) (fun b w => w < 2 ^ 64 ∧ ∀ j' b', b' < 8 → (w.testBit (8 * j' + b') = true ↔ (j' < j ∨ (j' = j ∧ b' < b)) ∧ b' < R * C)) (fun z => ∃ w, z = some (lN w) ∧ w < 2 ^ 64 ∧ ∀ j b, j < n → b < 8 → w.testBit (8 * j + b) = decide (b < R * C)) ?_ ?_ N 0 w (by omega) (by omega) ⟨h1, fun j' b' hb' => by rw [h2 j' b' hb']; omega⟩
    · rintro f' b w hb ⟨g1, g2⟩ ihl
      try dsimp only at ihl ⊢
      rw [f_X4_allPlaces_L17]
      unfold f_X7_places
      rw [pk_mul, bd_some, if_neg (nI_ge hb (by omega)), bitOf_n (by omega) (by omega), bd_some, nI_1, wb_or g1 (Nat.pow_lt_pow_right (by decide) (by omega))]
      refine ihl (w ||| 2 ^ (8 * j + b)) ⟨or_lt g1 (by omega), fun j' b' hb' => ?_⟩
      rw [or_b (by omega) hb', Bool.or_eq_true, g2 j' b' hb', decide_eq_true_eq]
      omega
    · rintro f' w ⟨g1, g2⟩
      try dsimp only
      rw [f_X4_allPlaces_L17]
      unfold f_X7_places
      rw [pk_mul, bd_some, if_pos (Int32.le_refl _)]
      refine ih w ⟨g1, fun j' b' hb' => ?_⟩
      rw [g2 j' b' hb']
      omega
  · rintro f w ⟨h1, h2⟩
    try dsimp only
    rw [f_X4_allPlaces_L5, if_pos (Int32.le_refl _)]
    refine ⟨w, rfl, h1, fun j b j2 hb => ?_⟩
    rw [Bool.eq_iff_iff, h2 j b hb, decide_eq_true_eq]
    omega
theorem stsolve_n {N : Nat} (hN : 20 < N) (hP : R * C ≤ 8) (n1 : 1 ≤ n) (hn : n ≤ 8) (c1 : 1 ≤ C) (c2 : C ≤ 4) (hr : r ≤ 50) (hT : ∀ k, k < 8 → T k ≤ 250 ∧ talls k = nI (T k) ∧ mtall k = nI (T k)) (hH : ∀ k, k < 64 → H k ≤ 2 ∧ pairs k = nI (H k) ∧ mpairs k = nI (H k)) (lv : Nat → Int64) (F : Nat → Int32) (pp pc : Int32) :
    ∃ lv' F', f_X4_solve N lv F pp pc (nI R) (nI C) (nI r) talls pairs 1 (nI n) = some (nI n, nI (cE (okN C r T H) (R * C) n 0 (fun _ => 0)), lv', F', 0) ∧ ∀ j, j < n → F' j = (fE (okN C r T H) (R * C) n 0 (fun _ => 0)).elim (-6) (fun B => nI (B j)) := by
  unfold f_X4_solve
  rw [if_neg (show ¬ (1 : Int32) = 0 by decide), lc]
  refine lpI (fun f i (z : Nat → Int32) => f_X4_solve_L20 (fun (pw_first_5 : Nat → Int32) => lc (fun (pw_leaves_11 : Nat → Int64) => bd (f_X4_allPlaces N (nI n) (nI R) (nI C)) fun v20 =>
    bd (f_X4_countFrom N 9 pw_leaves_11 pw_first_5 (nI n) (0 : Int32) v20) fun x => some (nI n, x.1, pw_leaves_11, x.2, (0 : Int32))) (fun k10 =>
    f_X4_solve_L42 (nI R) (nI C) (nI r) talls pairs (nI n) N k10 N (0 : Int32) lv)) f (nI i) z) 8 (fun i z => ∀ j, j < i → z j = -6) (fun z => ∃ lv' F', z = some (nI n, nI (cE (okN C r T H) (R * C) n 0 (fun _ => 0)), lv', F', 0) ∧ ∀ j, j < n → F' j = (fE (okN C r T H) (R * C) n 0 (fun _ => 0)).elim (-6) (fun B => nI (B j))) ?_ ?_ N 0 F (by omega) (by omega) (fun j h => by omega)
  · intro f i z hi hI ih
    try dsimp only at ih ⊢
    rw [f_X4_solve_L20, if_neg (show ¬ (8 : Int32) ≤ nI i from nI_ge (b := 8) hi (by omega)), sti_n (by omega) (by omega), bd_some, nI_1]
    refine ih _ (fun k hk => ?_)
    by_cases e : k = i
    · subst e; exact upd_s
    · rw [upd_n (by omega)]; exact hI k (by omega)
  · intro f z hz
    try dsimp only
    rw [f_X4_solve_L20, if_pos (show (8 : Int32) ≤ nI 8 from Int32.le_refl _), lc]
    refine lpI (fun f k (w : Nat → Int64) => f_X4_solve_L42 (nI R) (nI C) (nI r) talls pairs (nI n) N (fun (pw_leaves_11 : Nat → Int64) => bd (f_X4_allPlaces N (nI n) (nI R) (nI C)) fun v20 =>
      bd (f_X4_countFrom N 9 pw_leaves_11 z (nI n) (0 : Int32) v20) fun x => some (nI n, x.1, pw_leaves_11, x.2, (0 : Int32))) f (nI k) w) n (fun k w => ∀ k' a, k' < k → a < R * C → ∃ v, v < 2 ^ 64 ∧ w (8 * k' + a) = lN v ∧ ∀ j b, k' < j → j < n → b < 8 → v.testBit (8 * j + b) = (decide (b < R * C) && okN C r T H k' a j b)) (fun z => ∃ lv' F', z = some (nI n, nI (cE (okN C r T H) (R * C) n 0 (fun _ => 0)), lv', F', 0) ∧ ∀ j, j < n → F' j = (fE (okN C r T H) (R * C) n 0 (fun _ => 0)).elim (-6) (fun B => nI (B j))) ?_ ?_ N 0 lv (by omega) (by omega) (fun j a h => by omega)
    · intro f k w hk hI ih
      try dsimp only at ih ⊢
      rw [f_X4_solve_L42, if_neg (nI_ge hk (by omega)), lc, nI_1]
      refine lpI (fun f' a (w : Nat → Int64) => f_X4_solve_L53 (nI R) (nI C) (nI r) talls pairs (nI n) (nI k) N (fun (pw_leaves_16 : Nat → Int64) => f_X4_solve_L42 (nI R) (nI C) (nI r) talls pairs (nI n) N (fun (pw_leaves_11 : Nat → Int64) => bd (f_X4_allPlaces N (nI n) (nI R) (nI C)) fun v20 =>
        bd (f_X4_countFrom N 9 pw_leaves_11 z (nI n) (0 : Int32) v20) fun x => some (nI n, x.1, pw_leaves_11, x.2, (0 : Int32))) f (nI (k + 1)) pw_leaves_16) f' (nI a) w) (R * C) (fun a w => ∀ k' a', (k' < k ∨ (k' = k ∧ a' < a)) → a' < R * C → ∃ v, v < 2 ^ 64 ∧ w (8 * k' + a') = lN v ∧ ∀ j b, k' < j → j < n → b < 8 → v.testBit (8 * j + b) = (decide (b < R * C) && okN C r T H k' a' j b)) (fun z => ∃ lv' F', z = some (nI n, nI (cE (okN C r T H) (R * C) n 0 (fun _ => 0)), lv', F', 0) ∧ ∀ j, j < n → F' j = (fE (okN C r T H) (R * C) n 0 (fun _ => 0)).elim (-6) (fun B => nI (B j))) ?_ ?_ N 0 w (by omega) (by omega) (fun k' a' h h2 => hI k' a' (by omega) h2)
      · intro f' a w ha hI' ih'
        try dsimp only at ih' ⊢
        obtain ⟨v, v1, v2, v3⟩ := left_n hN hP hn c1 c2 hr hT hH hk ha
        rw [f_X4_solve_L53]
        unfold f_X7_places
        rw [pk_mul, bd_some, if_neg (nI_ge ha (by omega)), v1, bd_some, l_8, pk_mul, nI_add, Nat.mul_comm k 8, stl_n (show 8 * k + a < 64 by omega) (by omega), bd_some, nI_1]
        refine ih' _ (fun k' a' h h2 => ?_)
        by_cases e : k' = k ∧ a' = a
        · obtain ⟨rfl, rfl⟩ := e
          exact ⟨v, v2, pk_uLs, v3⟩
        · rw [pk_uLn (by omega)]
          exact hI' k' a' (by omega) h2
      · intro f' w hI'
        try dsimp only
        rw [f_X4_solve_L53]
        unfold f_X7_places
        rw [pk_mul, bd_some, if_pos (Int32.le_refl _)]
        exact ih w (fun k' a' h h2 => hI' k' a' (by omega) h2)
    · intro f w hI
      try dsimp only
      obtain ⟨v, v1, v2, v3⟩ := all_n (R := R) (C := C) (n := n) hN hP hn
      obtain ⟨m, rfl⟩ : ∃ m, n = m + 1 := ⟨n - 1, by omega⟩
      rw [f_X4_solve_L42, if_pos (Int32.le_refl _), v1, bd_some]
      have hcf := cf_n (g := okN C r T H) (n := m + 1) (P := R * C) (lv := w) hN hn hP (fun k a hk ha => hI k a hk ha) m 0 (fun _ => 0) v z 9 (by omega) (by omega) ⟨v2, fun j b _ j2 hb => by rw [v3 j b j2 hb]; simp [gd]⟩
      rw [show (0 : Int32) = nI 0 from rfl, hcf, bd_some]
      refine ⟨_, _, rfl, fun j hj => ?_⟩
      unfold nt
      dsimp only
      rw [if_pos ⟨by omega, hj, hz j (by omega)⟩]
end Sol
