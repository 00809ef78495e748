theorem cnt_zero {p : Nat → Bool} {m : Nat} (h : ∀ k, k < m → p k = false) : cnt p m = 0 := by
  rw [cnt_more (m := 0) (by omega) (fun k _ h2 => h k h2)]
  rfl
section Left
variable {L bits : Nat → Int32} {n c h N : Nat}
theorem fewBad_n (hn : n ≤ 8) (hc : c ≤ 10) (c1 : 1 ≤ c) (hN : 20 < N) (hb : ∀ s, s < c → ∃ b, b < 2 ^ n ∧ bits s = nI b ∧ ∀ k, k < n → b.testBit k = decide (L (8 * s + k) = 111)) {w a k : Nat} (hk : k < n) (hw : w < 256) (hwb : ∀ j, w.testBit j = decide (a ≤ j ∧ j ≤ k)) :
    f_X6_fewestBad N (nI c) bits (nI w) = some (nI (mn (fun s => cnt (fun j => decide (a ≤ j) && !decide (L (8 * s + j) = 111)) (k + 1)) c)) := by
  have nn8 : 2 ^ n ≤ 256 := Nat.pow_le_pow_right (n := 2) (by omega) hn
  have hcnt : ∀ s, s < c → f_X6_badIn bits (nI s) (nI w) = some (nI (cnt (fun j => decide (a ≤ j) && !decide (L (8 * s + j) = 111)) (k + 1))) := by
    intro s hs
    obtain ⟨b, b1, b2, b3⟩ := hb s hs
    rw [badIn_n (by omega) hw (by omega) b2]
    congr 2
    rw [cnt_more (m := k + 1) (by omega) (fun j h1 h2 => by rw [hwb]; simp [show ¬ j ≤ k by omega])]
    apply cnt_congr
    intro j hj
    rw [hwb, b3 j (by omega)]
    simp [show j ≤ k by omega]
  unfold f_X6_fewestBad
  simp only [lc]
  refine lpI (fun f i (z : Int32) => f_X6_fewestBad_L5 (nI c) bits (nI w) (fun z => some z) f z (nI i)) c (fun i z => z = nI (min 8 (mn (fun s => cnt (fun j => decide (a ≤ j) && !decide (L (8 * s + j) = 111)) (k + 1)) i))) (fun z => z = some (nI (mn (fun s => cnt (fun j => decide (a ≤ j) && !decide (L (8 * s + j) = 111)) (k + 1)) c))) ?_ ?_ N 0 8 (by omega) (by omega) rfl
  · rintro f i _ hi rfl ih
    try dsimp only
    have q1 := cnt_le (fun j => decide (a ≤ j) && !decide (L (8 * i + j) = 111)) (k + 1)
    rw [f_X6_fewestBad_L5, if_neg (nI_ge hi (by omega)), hcnt i hi, bd_some, imin_n (by omega) (by omega), nI_1]
    refine ih _ ?_
    rw [mn]
    congr 1
    omega
  · rintro f _ rfl
    try dsimp only
    have q1 := cnt_le (fun j => decide (a ≤ j) && !decide (L (8 * 0 + j) = 111)) (k + 1)
    have q2 := mn_le (f := fun s => cnt (fun j => decide (a ≤ j) && !decide (L (8 * s + j) = 111)) (k + 1)) (show 0 < c by omega)
    rw [f_X6_fewestBad_L5, if_pos (Int32.le_refl _)]
    congr 2
    omega
theorem mFewBad_n (hn : n ≤ 8) (hc : c ≤ 10) (hN : 20 < N) {a k : Nat} (hk : k < n) (ha : a ≤ k) :
    f_X9_fewestBad N (nI c) L (nI a) (nI k) = some (nI (mn (fun s => cnt (fun j => decide (a ≤ j) && !decide (L (8 * s + j) = 111)) (k + 1)) c)) := by
  unfold f_X9_fewestBad
  simp only [lc]
  refine lpI (fun f i (z : Int32) => f_X9_fewestBad_L7 (nI c) L (nI a) (nI k) N (fun z => some z) f z (nI i)) c (fun i z => z = nI (mn (fun s => cnt (fun j => decide (a ≤ j) && !decide (L (8 * s + j) = 111)) (k + 1)) i)) (fun z => z = some (nI (mn (fun s => cnt (fun j => decide (a ≤ j) && !decide (L (8 * s + j) = 111)) (k + 1)) c))) ?_ ?_ N 0 1000 (by omega) (by omega) rfl
  · rintro f i _ hi rfl ih
    try dsimp only
    rw [f_X9_fewestBad_L7, if_neg (nI_ge hi (by omega))]
    simp only [lc]
    have inner : ∀ K : Int32 → Option Int32, f_X9_fewestBad_L22 L (nI k) (nI i) K N 0 (nI a) = K (nI (cnt (fun j => decide (a ≤ j) && !decide (L (8 * i + j) = 111)) (k + 1))) := by
      intro K
      refine lpI (fun f' j (z : Int32) => f_X9_fewestBad_L22 L (nI k) (nI i) K f' z (nI j)) (k + 1) (fun j z => a ≤ j ∧ z = nI (cnt (fun j => decide (a ≤ j) && !decide (L (8 * i + j) = 111)) j)) (fun z => z = K (nI (cnt (fun j => decide (a ≤ j) && !decide (L (8 * i + j) = 111)) (k + 1)))) ?_ ?_ N a 0 (by omega) (by omega) ⟨Nat.le_refl _, by rw [cnt_zero (fun j hj => by simp [show ¬ a ≤ j by omega])]; rfl⟩
      · rintro f' j _ hj ⟨haj, rfl⟩ ih'
        try dsimp only
        rw [f_X9_fewestBad_L22, if_neg (nI_nlt (by omega) (by omega)), mIsOpen_n (by omega) (by omega), bd_some]
        simp only [lc, nI_1]
        refine Eq.trans ?_ (ih' _ ⟨by omega, rfl⟩)
        by_cases e : L (8 * i + j) = 111
        · simp only [e, ↓reduceIte, one_ne, cnt, haj, decide_true, Bool.not_true, Bool.and_false, Bool.false_eq_true, Nat.add_zero]
          rw [show (0 : Int32) = nI 0 from rfl, nI_add]
          rfl
        · simp only [e, ↓reduceIte, cnt, haj, decide_true, decide_false, Bool.not_false, Bool.and_true, nI_1]
      · rintro f' _ ⟨haj, rfl⟩
        try dsimp only
        rw [f_X9_fewestBad_L22, if_pos (nI_lt (by omega) (by omega))]
    rw [inner]
    have q1 := cnt_le (fun j => decide (a ≤ j) && !decide (L (8 * i + j) = 111)) (k + 1)
    have q2 := mn_top (fun s => cnt (fun j => decide (a ≤ j) && !decide (L (8 * s + j) = 111)) (k + 1)) i
    simp only [nI_leI (show mn (fun s => cnt (fun j => decide (a ≤ j) && !decide (L (8 * s + j) = 111)) (k + 1)) i < 2 ^ 31 by omega) (show cnt (fun j => decide (a ≤ j) && !decide (L (8 * i + j) = 111)) (k + 1) < 2 ^ 31 by omega), nI_1]
    refine Eq.trans ?_ (ih _ rfl)
    rw [mn]
    split
    · rw [Nat.min_eq_left (by omega)]
    · rw [Nat.min_eq_right (by omega)]
  · rintro f _ rfl
    try dsimp only
    rw [f_X9_fewestBad_L7, if_pos (Int32.le_refl _)]
end Left
theorem pu_left {n c : Nat} {people bride count hands mpeople mshots mbride mhands : Int32} {looks bits mlooks : Nat → Int32} (hsh : R_sh n c people bride count hands looks bits mpeople mshots mlooks mbride mhands) :
    ∃ N r, f_X8_left N people count hands bits = some r ∧ f_X9_left N mpeople mshots mlooks mhands = some r := by
  obtain ⟨⟨n1, n2, n3⟩, ⟨rfl, rfl, rfl, rfl⟩, hl, hb, -, rfl, h, hh, rfl⟩ := hsh
  have p7 : 2 ^ (n - 1) ≤ 2 ^ 7 := Nat.pow_le_pow_right (n := 2) (by omega) (by omega)
  have hh' : h < 2 ^ 31 := by omega
  refine ⟨100, ?_⟩
  unfold f_X8_left f_X9_left f_X6_fewestLeft
  by_cases e : c = 0
  · subst e
    rw [if_pos (show nI 0 = 0 from rfl), if_pos (show nI 0 = 0 from rfl)]
    exact ⟨_, rfl, rfl⟩
  · rw [if_neg (show ¬ nI c = 0 from nI_nei (b := 0) e (by omega) (by omega)), if_neg (show ¬ nI c = 0 from nI_nei (b := 0) e (by omega) (by omega))]
    simp only [lc]
    have key : ∃ r, f_X6_fewestLeft_L17 (nI c) (nI h) bits (nI n) 100 (fun z => some z) 100 0 0 0 = some r ∧ f_X9_left_L16 (nI n) (nI c) mlooks (nI h) 100 (fun z => some z) 100 0 0 0 = some r := by
      refine lpI (fun f i (z : Int32 × Int32 × Int32) => (f_X6_fewestLeft_L17 (nI c) (nI h) bits (nI n) 100 (fun z => some z) f z.1 z.2.1 (nI i), f_X9_left_L16 (nI n) (nI c) mlooks (nI h) 100 (fun z => some z) f z.1 z.2.2 (nI i))) n (fun i z => ∃ a w, a ≤ i ∧ w < 2 ^ i ∧ z.2.1 = nI w ∧ z.2.2 = nI a ∧ ∀ j, w.testBit j = decide (a ≤ j ∧ j < i)) (fun z => ∃ r, z.1 = some r ∧ z.2 = some r) ?_ ?_ 100 0 (0, 0, 0) (by omega) (by omega) ⟨0, 0, by omega, by omega, rfl, rfl, fun j => by simp⟩
      · rintro f i ⟨y, cw, fa⟩ hi ⟨a, w, h1, h2, h3, h4, h5⟩ ih
        dsimp only at h3 h4 ih ⊢
        subst h3; subst h4
        have p8 : 2 ^ (i + 1) ≤ 256 := Nat.pow_le_pow_right (n := 2) (by omega) (show i + 1 ≤ 8 by omega)
        have w1 : w ||| 2 ^ i < 2 ^ (i + 1) := Nat.or_lt_two_pow (by rw [Nat.pow_succ]; omega) (Nat.pow_lt_pow_right (by omega) (by omega))
        have w2 : ∀ j, (w ||| 2 ^ i).testBit j = decide (a ≤ j ∧ j ≤ i) := by
          intro j
          rw [Nat.testBit_or, Nat.testBit_two_pow, h5]
          by_cases ej : j = i
          · subst ej; simp [h1]
          · by_cases el : j < i
            · simp [show ¬ i = j by omega, el, show j ≤ i by omega]
            · simp [show ¬ i = j by omega, el, show ¬ j ≤ i by omega]
        rw [f_X6_fewestLeft_L17, f_X9_left_L16, if_neg (nI_ge hi (by omega)), if_neg (nI_ge hi (by omega)), hold_n hh' (by omega), bd_some, shl1 i (by omega), fa_or, show nI n - (1 : Int32) = nI (n - 1) by rw [l_1, pk_sub (by omega)]]
        simp only [lc, nI_1, one_ne, ↓reduceIte, nI_eq (show i < 2 ^ 31 by omega) (show n - 1 < 2 ^ 31 by omega), bit_get0 hh' (show i < 31 by omega)]
        by_cases eh : h.testBit i = true
        · have en : ¬ i = n - 1 := by
            intro e2
            subst e2
            rw [Nat.testBit_lt_two_pow hh] at eh
            cases eh
          simp only [eh, ↓reduceIte, en, one_ne, Bool.true_eq_false]
          exact ih (y, nI (w ||| 2 ^ i), nI a) ⟨a, w ||| 2 ^ i, by omega, w1, rfl, rfl, fun j => by rw [w2]; simp [Nat.lt_succ_iff]⟩
        · have eh' : h.testBit i = false := by simpa using eh
          have e3 : (if i = n - 1 then bd (f_X9_fewestBad 100 (nI c) mlooks (nI a) (nI i)) (fun v11 => f_X9_left_L16 (nI n) (nI c) mlooks (nI h) 100 (fun z => some z) f (y + v11) (nI (i + 1)) (nI (i + 1))) else bd (f_X9_fewestBad 100 (nI c) mlooks (nI a) (nI i)) (fun v11 => f_X9_left_L16 (nI n) (nI c) mlooks (nI h) 100 (fun z => some z) f (y + v11) (nI (i + 1)) (nI (i + 1)))) = bd (f_X9_fewestBad 100 (nI c) mlooks (nI a) (nI i)) (fun v11 => f_X9_left_L16 (nI n) (nI c) mlooks (nI h) 100 (fun z => some z) f (y + v11) (nI (i + 1)) (nI (i + 1))) := by split <;> rfl
          simp only [eh', Bool.false_eq_true, ↓reduceIte]
          rw [e3, fewBad_n (L := mlooks) (a := a) (k := i) n2 n3 (by omega) (by omega) hb hi (by omega) w2, mFewBad_n n2 n3 (by omega) hi h1, bd_some, bd_some]
          exact ih (_, 0, nI (i + 1)) ⟨i + 1, 0, by omega, Nat.two_pow_pos _, rfl, rfl, fun j => by simp⟩
      · rintro f ⟨y, cw, fa⟩ _
        dsimp only
        rw [f_X6_fewestLeft_L17, f_X9_left_L16, if_pos (Int32.le_refl _), if_pos (Int32.le_refl _)]
        exact ⟨y, rfl, rfl⟩
    obtain ⟨r, h1, h2⟩ := key
    rw [h1, h2]
    exact ⟨r, rfl, rfl⟩
