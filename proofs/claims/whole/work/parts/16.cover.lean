theorem ones_mono {K : Int32 → Option Int32} : ∀ (f g : Nat) (a x r : Int32), f_X9_ones_L4 K f a x = some r → f_X9_ones_L4 K (f + g) a x = some r := by
  intro f
  induction f with
  | zero => intro g a x r h; rw [f_X9_ones_L4] at h; cases h
  | succ f ih =>
    intro g a x r h
    rw [f_X9_ones_L4] at h
    rw [show f + 1 + g = (f + g) + 1 by omega, f_X9_ones_L4]
    by_cases e : x = 0
    · rw [if_pos e] at h ⊢; exact h
    · rw [if_neg e] at h ⊢; exact ih g _ _ _ h
theorem ones_12 : ∀ x, x < 1024 → f_X9_ones 12 (nI x) = some (nI (cnt x.testBit 10)) := by decide +kernel
theorem ones_n {x N : Nat} (hx : x < 1024) (hN : 12 ≤ N) : f_X9_ones N (nI x) = some (nI (cnt x.testBit 10)) := by
  have h := ones_12 x hx
  unfold f_X9_ones at h ⊢
  simp only [lc] at h ⊢
  have h2 := ones_mono 12 (N - 12) _ _ _ h
  rw [show 12 + (N - 12) = N by omega] at h2
  exact h2
theorem i_or0 (x : Int32) : x ||| 0 = x := by
  apply b_ext
  intro i hi
  rw [b_or, b_0]
  simp
theorem openIn_n {L : Nat → Int32} {s n N b : Nat} (hs : s < 10) (hn : n ≤ 8) (hN : 10 < N) (hb : b < 2 ^ n) (h : ∀ k, k < n → b.testBit k = decide (L (8 * s + k) = 111)) : f_X9_openIn N (nI n) L (nI s) = some (nI b) := by
  unfold f_X9_openIn
  simp only [lc]
  refine lpI (fun f i (y : Int32) => f_X9_openIn_L4 (nI n) L (nI s) (fun z => some z) f y (nI i)) n (fun i y => ∃ w, w < 2 ^ i ∧ y = nI w ∧ ∀ k, k < i → w.testBit k = decide (L (8 * s + k) = 111)) (fun z => z = some (nI b)) ?_ ?_ N 0 0 (by omega) (by omega) ⟨0, by omega, rfl, fun k hk => by omega⟩
  · rintro f i _ hi ⟨w, w1, rfl, w2⟩ ih
    try dsimp only
    rw [f_X9_openIn_L4, if_neg (nI_ge hi (by omega)), mIsOpen_n hs (by omega), bd_some]
    simp only [lc, nI_1]
    by_cases e : L (8 * s + i) = 111
    · simp only [if_pos e, one_ne, ↓reduceIte]
      rw [shl1 i (by omega), fa_or]
      refine ih _ ⟨w ||| 2 ^ i, Nat.or_lt_two_pow (by rw [Nat.pow_succ]; omega) (Nat.pow_lt_pow_right (by omega) (by omega)), rfl, fun k hk => ?_⟩
      rw [Nat.testBit_or, Nat.testBit_two_pow]
      by_cases ek : k = i
      · subst ek; simp [e]
      · rw [← w2 k (by omega)]; simp [show ¬ i = k by omega]
    · simp only [if_neg e, ↓reduceIte]
      rw [i_or0]
      refine ih _ ⟨w, by rw [Nat.pow_succ]; omega, rfl, fun k hk => ?_⟩
      by_cases ek : k = i
      · subst ek; rw [Nat.testBit_lt_two_pow w1]; simp [e]
      · exact w2 k (by omega)
  · rintro f _ ⟨w, w1, rfl, w2⟩
    try dsimp only
    rw [f_X9_openIn_L4, if_pos (Int32.le_refl _)]
    congr 2
    apply Nat.eq_of_testBit_eq
    intro k
    by_cases hk : k < n
    · rw [w2 k hk, h k hk]
    · rw [Nat.testBit_lt_two_pow (Nat.lt_of_lt_of_le w1 (Nat.pow_le_pow_right (by omega) (by omega))), Nat.testBit_lt_two_pow (Nat.lt_of_lt_of_le hb (Nat.pow_le_pow_right (by omega) (by omega)))]
theorem sh_lit : ∀ c, c ≤ 10 → (1 : Int32) <<< (nI c &&& 31) = nI (2 ^ c) := by decide +kernel
theorem or_bit0 (y : Int32) : ((0 : Int32) >>> (y &&& 31)) = 0 := by
  apply Int32.toInt_inj.mp
  rw [pk_shr _ _ _ rfl]
  simp
theorem pu_cover {n c : Nat} {people bride count hands mpeople mshots mbride mhands : Int32} {looks bits mlooks : Nat → Int32} (hsh : R_sh n c people bride count hands looks bits mpeople mshots mlooks mbride mhands) :
    ∃ N r, f_X8_cover N people count bits = some r ∧ f_X9_cover N mpeople mshots mlooks = some r := by
  obtain ⟨⟨n1, n2, n3⟩, ⟨rfl, rfl, rfl, rfl⟩, hl, hb, -, -⟩ := hsh
  refine ⟨2000, ?_⟩
  have inner : ∀ set : Int32, ∃ z, f_X6_openInSome 2000 (nI c) bits set = some z ∧ (set = 0 → z = 0) ∧ ∀ K, f_X9_cover_L20 (nI n) (nI c) mlooks set 2000 K 2000 0 0 = K z := by
    intro set
    unfold f_X6_openInSome
    simp only [lc]
    have key : ∀ K, ∃ z, f_X6_openInSome_L4 (nI c) bits set (fun z => some z) 2000 0 0 = some z ∧ (set = 0 → z = 0) ∧ f_X9_cover_L20 (nI n) (nI c) mlooks set 2000 K 2000 0 0 = K z := by
      intro K
      refine lpI (fun f i (y : Int32) => (f_X6_openInSome_L4 (nI c) bits set (fun z => some z) f y (nI i), f_X9_cover_L20 (nI n) (nI c) mlooks set 2000 K f y (nI i))) c (fun _ y => set = 0 → y = 0) (fun z => ∃ y, z.1 = some y ∧ (set = 0 → y = 0) ∧ z.2 = K y) ?_ ?_ 2000 0 0 (by omega) (by omega) (fun _ => rfl)
      · intro f i y hi h0 ih
        dsimp only
        obtain ⟨b, b1, b2, b3⟩ := hb i hi
        rw [f_X6_openInSome_L4, f_X9_cover_L20, if_neg (nI_ge hi (by omega)), if_neg (nI_ge hi (by omega)), ld_n (by omega) (by omega), openIn_n (by omega) n2 (by omega) b1 b3]
        simp only [bd_some, lc, nI_1]
        by_cases e : ((set >>> (nI i &&& 31)) &&& (1 : Int32)) = (1 : Int32)
        · simp only [if_pos e, b2]
          refine ih _ (fun hs => ?_)
          subst hs
          rw [or_bit0] at e
          exact absurd e (by decide)
        · simp only [if_neg e, i_or0]
          exact ih _ h0
      · intro f y h0
        dsimp only
        rw [f_X6_openInSome_L4, f_X9_cover_L20, if_pos (Int32.le_refl _), if_pos (Int32.le_refl _)]
        exact ⟨y, rfl, h0, rfl⟩
    obtain ⟨z, h1, h2, -⟩ := key (fun _ => none)
    refine ⟨z, h1, h2, fun K => ?_⟩
    obtain ⟨z', g1, -, g3⟩ := key K
    rw [h1] at g1
    cases g1
    exact g3
  have c10 : 2 ^ c ≤ 1024 := Nat.pow_le_pow_right (n := 2) (by omega) n3
  have c1 : 1 ≤ 2 ^ c := Nat.one_le_two_pow
  have nn : 2 ≤ 2 ^ n := Nat.pow_le_pow_right (n := 2) (by omega) n1
  have nn8 : 2 ^ n ≤ 256 := Nat.pow_le_pow_right (n := 2) (by omega) n2
  unfold f_X8_cover f_X9_cover f_X5_everybody f_X6_leastCover
  simp only [lc, bd_some, every_n n n2]
  rw [f_X9_cover_L5, sh_lit c n3, if_neg (show ¬ nI (2 ^ c) ≤ 0 from nI_ge (a := 0) (by omega) (by omega))]
  obtain ⟨z0, g1, g2, g3⟩ := inner 0
  simp only [lc]
  rw [g3, g2 rfl, every_n n n2, if_neg (show ¬ (0 : Int32) = nI (2 ^ n - 1) from nI_nei (a := 0) (by omega) (by omega) (by omega)), if_pos trivial]
  have key : ∃ r, f_X6_leastCover_L9 (nI c) bits (nI (2 ^ n - 1)) 2000 (fun z => some z) 2000 (-6) 11 1 = some r ∧ f_X9_cover_L5 (nI n) (nI c) mlooks 2000 (fun z => some z) 1999 (-6) 1 = some r := by
    refine lpI (fun f i (z : Int32 × Int32) => (f_X6_leastCover_L9 (nI c) bits (nI (2 ^ n - 1)) 2000 (fun z => some z) (f + 1) z.1 z.2 (nI i), f_X9_cover_L5 (nI n) (nI c) mlooks 2000 (fun z => some z) f z.1 (nI i))) (2 ^ c) (fun i z => (z.1 = -6 ∧ z.2 = 11) ∨ ∃ t, t < 1024 ∧ z.1 = nI t ∧ z.2 = nI (cnt t.testBit 10)) (fun z => ∃ r, z.1 = some r ∧ z.2 = some r) ?_ ?_ 1999 1 (-6, 11) c1 (by omega) (Or.inl ⟨rfl, rfl⟩)
    · rintro f i ⟨B, F⟩ hi hI ih
      dsimp only at hI ih ⊢
      have hi10 : i < 1024 := by omega
      obtain ⟨z, g1, g2, g3⟩ := inner (nI i)
      rw [f_X6_leastCover_L9, f_X9_cover_L5, sh_lit c n3, if_neg (nI_ge hi (by omega)), if_neg (nI_ge hi (by omega)), bc_small i hi10, g1]
      simp only [bd_some, lc, nI_1, g3, every_n n n2]
      have keep := ih (B, F) hI
      have take := ih (nI i, nI (cnt i.testBit 10)) (Or.inr ⟨i, hi10, rfl, rfl⟩)
      dsimp only at keep take
      have ci := cnt_le i.testBit 10
      by_cases e : z = nI (2 ^ n - 1)
      · simp only [if_pos e, one_ne, ↓reduceIte]
        rcases hI with ⟨rfl, rfl⟩ | ⟨t, ht, rfl, rfl⟩
        · rw [if_neg (show ¬ (11 : Int32) ≤ nI (cnt i.testBit 10) from nI_ge (b := 11) (by omega) (by omega)), if_pos m6_lt0]
          exact take
        · have ct := cnt_le t.testBit 10
          rw [if_neg (nI_pos (n := t) (by omega)), ones_n hi10 (by omega), ones_n ht (by omega)]
          simp only [bd_some]
          by_cases e2 : nI (cnt t.testBit 10) ≤ nI (cnt i.testBit 10)
          · rw [if_pos e2, if_pos e2]; exact keep
          · rw [if_neg e2, if_neg e2]; exact take
      · simp only [if_neg e, ↓reduceIte]
        have : (if F ≤ nI (cnt i.testBit 10) then f_X6_leastCover_L9 (nI c) bits (nI (2 ^ n - 1)) 2000 (fun z => some z) (f + 1) B F (nI (i + 1)) else f_X6_leastCover_L9 (nI c) bits (nI (2 ^ n - 1)) 2000 (fun z => some z) (f + 1) B F (nI (i + 1))) = f_X6_leastCover_L9 (nI c) bits (nI (2 ^ n - 1)) 2000 (fun z => some z) (f + 1) B F (nI (i + 1)) := by split <;> rfl
        rw [this]
        exact keep
    · rintro f ⟨B, F⟩ hI
      dsimp only at hI ⊢
      rw [f_X6_leastCover_L9, f_X9_cover_L5, sh_lit c n3, if_pos (Int32.le_refl _), if_pos (Int32.le_refl _)]
      exact ⟨B, rfl, rfl⟩
  obtain ⟨r, h1, h2⟩ := key
  rw [h1, show (0 : Int32) + 1 = 1 from rfl, h2]
  exact ⟨r, rfl, rfl⟩
theorem timesBad_n {bits L : Nat → Int32} {n c k N : Nat} (hc : c ≤ 10) (hn : n ≤ 8) (hk : k < n) (hN : 20 < N) (hb : ∀ s, s < c → ∃ b, b < 2 ^ n ∧ bits s = nI b ∧ ∀ k, k < n → b.testBit k = decide (L (8 * s + k) = 111)) : f_X6_timesBad N (nI c) bits (nI k) = some (nI (cnt (fun s => !decide (L (8 * s + k) = 111)) c)) := by
  unfold f_X6_timesBad
  simp only [lc]
  have nn8 : 2 ^ n ≤ 256 := Nat.pow_le_pow_right (n := 2) (by omega) hn
  refine lpI (fun f i (y : Int32) => f_X6_timesBad_L4 (nI c) bits (nI k) (fun z => some z) f y (nI i)) c (fun i y => y = nI (cnt (fun s => !decide (L (8 * s + k) = 111)) i)) (fun z => z = some (nI (cnt (fun s => !decide (L (8 * s + k) = 111)) c))) ?_ ?_ N 0 0 (by omega) (by omega) rfl
  · rintro f i _ hi rfl ih
    try dsimp only
    obtain ⟨b, b1, b2, b3⟩ := hb i hi
    rw [f_X6_timesBad_L4, if_neg (nI_ge hi (by omega)), isOpen_n (by omega) (by omega) (by omega) b2, bd_some, b3 k hk]
    simp only [lc, nI_1]
    refine Eq.trans ?_ (ih _ rfl)
    by_cases e : L (8 * i + k) = 111
    · simp only [e, decide_true, one_ne, ↓reduceIte, cnt, Bool.not_true, Bool.false_eq_true, Nat.add_zero]
    · simp only [e, decide_false, ↓reduceIte, cnt, Bool.not_false, Bool.false_eq_true]
  · rintro f _ rfl
    try dsimp only
    rw [f_X6_timesBad_L4, if_pos (Int32.le_refl _)]
theorem mTimes_n {L : Nat → Int32} {c k N : Nat} (hc : c ≤ 10) (hk : k < 8) (hN : 20 < N) (K : Int32 → Option Int32) : f_X9_spoils_L36 (nI c) L (nI k) K N 0 0 = K (nI (cnt (fun s => !decide (L (8 * s + k) = 111)) c)) := by
  refine lpI (fun f i (y : Int32) => f_X9_spoils_L36 (nI c) L (nI k) K f y (nI i)) c (fun i y => y = nI (cnt (fun s => !decide (L (8 * s + k) = 111)) i)) (fun z => z = K (nI (cnt (fun s => !decide (L (8 * s + k) = 111)) c))) ?_ ?_ N 0 0 (by omega) (by omega) rfl
  · rintro f i _ hi rfl ih
    try dsimp only
    rw [f_X9_spoils_L36, if_neg (nI_ge hi (by omega)), mIsOpen_n (by omega) hk, bd_some]
    simp only [lc, nI_1]
    refine Eq.trans ?_ (ih _ rfl)
    by_cases e : L (8 * i + k) = 111
    · simp only [e, decide_true, one_ne, ↓reduceIte, cnt, Bool.not_true, Bool.false_eq_true, Nat.add_zero]
      rw [show (0 : Int32) = nI 0 from rfl, nI_add]
      rfl
    · simp only [e, decide_false, ↓reduceIte, cnt, Bool.not_false, nI_1]
  · rintro f _ rfl
    try dsimp only
    rw [f_X9_spoils_L36, if_pos (Int32.le_refl _)]
theorem pu_spoils {n c : Nat} {people bride count hands mpeople mshots mbride mhands : Int32} {looks bits mlooks : Nat → Int32} (hsh : R_sh n c people bride count hands looks bits mpeople mshots mlooks mbride mhands) (p1 : Int32) :
    ∃ N r, f_X8_spoils N people count bits p1 = some r ∧ f_X9_spoils N mpeople mshots mlooks p1 = some r := by
  obtain ⟨⟨n1, n2, n3⟩, ⟨rfl, rfl, rfl, rfl⟩, hl, hb, -, -⟩ := hsh
  refine ⟨100, ?_⟩
  unfold f_X8_spoils f_X9_spoils
  rw [within_eq, in_eq2 (a := 0) (b := 1) (by decide) (by decide), bd_some, bd_some]
  by_cases e : (0 : Int32) ≤ p1 ∧ p1 ≤ 1
  · simp only [if_pos e, one_ne, ↓reduceIte, lc]
    have key : ∀ K : Int32 → Int32 → Option Int32, ∃ B M, f_X6_worstPerson 100 (nI c) bits (nI n) = some B ∧ f_X9_spoils_L21 (nI n) (nI c) mlooks 100 K 100 (-6) 0 0 = K B M ∧ ((B = -6 ∧ M = 0) ∨ ∃ k, k < n ∧ B = nI k ∧ M = nI (cnt (fun s => !decide (mlooks (8 * s + k) = 111)) c)) := by
      intro K
      unfold f_X6_worstPerson
      simp only [lc]
      refine lpI (fun f i (z : Int32 × Int32) => (f_X6_worstPerson_L8 (nI c) bits (nI n) 100 (fun z => some z) f z.1 z.2 (nI i), f_X9_spoils_L21 (nI n) (nI c) mlooks 100 K f z.1 z.2 (nI i))) n (fun i z => (z.1 = -6 ∧ z.2 = 0) ∨ ∃ k, k < n ∧ z.1 = nI k ∧ z.2 = nI (cnt (fun s => !decide (mlooks (8 * s + k) = 111)) c)) (fun z => ∃ B M, z.1 = some B ∧ z.2 = K B M ∧ ((B = -6 ∧ M = 0) ∨ ∃ k, k < n ∧ B = nI k ∧ M = nI (cnt (fun s => !decide (mlooks (8 * s + k) = 111)) c))) ?_ ?_ 100 0 (-6, 0) (by omega) (by omega) (Or.inl ⟨rfl, rfl⟩)
      · rintro f i ⟨B, M⟩ hi hI ih
        dsimp only at hI ih ⊢
        rw [f_X6_worstPerson_L8, f_X9_spoils_L21, if_neg (nI_ge hi (by omega)), if_neg (nI_ge hi (by omega)), timesBad_n n3 n2 hi (by omega) hb]
        simp only [bd_some, lc, nI_1]
        rw [mTimes_n n3 (by omega) (by omega)]
        by_cases e2 : nI (cnt (fun s => !decide (mlooks (8 * s + i) = 111)) c) ≤ M
        · simp only [if_pos e2]
          exact ih (B, M) hI
        · simp only [if_neg e2]
          exact ih (nI i, nI _) (Or.inr ⟨i, hi, rfl, rfl⟩)
      · rintro f ⟨B, M⟩ hI
        dsimp only at hI ⊢
        rw [f_X6_worstPerson_L8, f_X9_spoils_L21, if_pos (Int32.le_refl _), if_pos (Int32.le_refl _)]
        exact ⟨B, M, rfl, rfl, hI⟩
    obtain ⟨B, M, h1, h2, h3⟩ := key (fun z7 z8 => if p1 = 0 then some z7 else some z8)
    rw [h1, h2, bd_some]
    by_cases e0 : p1 = 0
    · rw [if_pos e0, if_pos e0]
      exact ⟨_, rfl, rfl⟩
    · rw [if_neg e0, if_neg e0]
      rcases h3 with ⟨rfl, rfl⟩ | ⟨k, hk, rfl, rfl⟩
      · rw [if_pos rfl]
        exact ⟨_, rfl, rfl⟩
      · rw [if_neg (nI_m6 (by omega)), timesBad_n n3 n2 hk (by omega) hb]
        exact ⟨_, rfl, rfl⟩
  · rw [if_neg e, if_pos rfl, if_pos rfl]
    exact ⟨_, rfl, rfl⟩
theorem hand_n : ∀ n, n < 9 → 1 ≤ n → (nI (2 ^ n - 1) >>> ((1 : Int32) &&& 31)) = nI (2 ^ (n - 1) - 1) ∧ ((1 : Int32) <<< ((nI n - (1 : Int32)) &&& 31)) - (1 : Int32) = nI (2 ^ (n - 1) - 1) := by decide +kernel
theorem pu_hands {n c : Nat} {people bride count hands mpeople mshots mbride mhands : Int32} {looks bits mlooks : Nat → Int32} (hsh : R_sh n c people bride count hands looks bits mpeople mshots mlooks mbride mhands) (p1 : Int32) :
    ∃ r hands' mhands', f_X8_hands people hands p1 = some (r, hands') ∧ f_X9_hands mpeople mhands p1 = some (r, mhands') ∧ R_sh n c people bride count hands' looks bits mpeople mshots mlooks mbride mhands' := by
  obtain ⟨⟨n1, n2, n3⟩, ⟨rfl, rfl, rfl, rfl⟩, hl, hb, hbr, rfl, hh⟩ := id hsh
  have h2 : 1 ≤ 2 ^ (n - 1) := Nat.one_le_two_pow
  have h3 : 2 ^ (n - 1) ≤ 2 ^ 7 := Nat.pow_le_pow_right (n := 2) (by omega) (by omega)
  unfold f_X8_hands f_X9_hands f_X5_everybody
  rw [bd_some, every_n n n2, (hand_n n (by omega) n1).1, (hand_n n (by omega) n1).2, within_eq, in_eq2 (a := 0) (by decide) rfl]
  simp only [bd_some]
  by_cases e : 0 ≤ p1 ∧ p1 ≤ nI (2 ^ (n - 1) - 1)
  · simp only [if_pos e, one_ne, ↓reduceIte]
    obtain ⟨j, hj, rfl⟩ := per_of (by omega) h2 e
    exact ⟨_, _, _, rfl, rfl, ⟨n1, n2, n3⟩, ⟨rfl, rfl, rfl, rfl⟩, hl, hb, hbr, rfl, j, hj, rfl⟩
  · simp only [if_neg e, ↓reduceIte]
    exact ⟨_, _, _, rfl, rfl, hsh⟩
