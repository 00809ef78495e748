theorem weigh {b h b' h' : Nat} (x : h ≤ 8) (x' : h' ≤ 8) : (b' * 9 + h' ≤ b * 9 + h) ↔ (10 * b' + h' ≤ 10 * b + h) := by omega
theorem pu_single {n c : Nat} {people bride count hands mpeople mshots mbride mhands : Int32} {looks bits mlooks : Nat → Int32} (hsh : R_sh n c people bride count hands looks bits mpeople mshots mlooks mbride mhands) (p1 : Int32) :
    ∃ N r, f_X8_single N people bride count looks bits p1 = some r ∧ f_X9_single N mpeople mshots mlooks mbride p1 = some r := by
  obtain ⟨⟨n1, n2, n3⟩, ⟨rfl, rfl, rfl, rfl⟩, hl, hb, ⟨rfl, hbr⟩, -⟩ := hsh
  refine ⟨100, ?_⟩
  have hbad : ∀ s, s < c → ∃ b, b < 2 ^ n ∧ bits s = nI b ∧ (∀ k, k < n → b.testBit k = decide (mlooks (8 * s + k) = 111)) ∧ cnt (fun k => !b.testBit k) n = cnt (fun k => !decide (mlooks (8 * s + k) = 111)) n := by
    intro s hs
    obtain ⟨b, h1, h2, h3⟩ := hb s hs
    exact ⟨b, h1, h2, h3, cnt_congr (fun k hk => by rw [h3 k hk])⟩
  have hhid : ∀ s, s < c → cnt (fun k => decide (looks (8 * s + k) = 104)) n = cnt (fun k => decide (mlooks (8 * s + k) = 104)) n := fun s hs => cnt_congr (fun k hk => by rw [hl s k hs hk])
  have p8 : 2 ^ n ≤ 256 := Nat.pow_le_pow_right (n := 2) (by omega) n2
  unfold f_X8_single f_X9_single
  rw [within_eq, in_eq2 (a := 0) (b := 1) (by decide) (by decide), bd_some, bd_some]
  by_cases e : (0 : Int32) ≤ p1 ∧ p1 ≤ 1
  · simp only [if_pos e, one_ne, ↓reduceIte, lc]
    have key : ∀ K : Int32 → Int32 → Option Int32, ∃ B Lw, f_X6_bestSingle 100 (nI c) looks bits (nI n) mbride = some B ∧ f_X9_single_L21 (nI n) (nI c) mlooks mbride 100 K 100 (-6) 0 0 = K B Lw ∧ (B = -6 ∨ ∃ s, s < c ∧ B = nI s ∧ Lw = nI (10 * cnt (fun k => !decide (mlooks (8 * s + k) = 111)) n + cnt (fun k => decide (mlooks (8 * s + k) = 104)) n)) := by
      intro K
      unfold f_X6_bestSingle
      simp only [lc]
      refine lpI (fun f i (z : Int32 × Int32 × Int32) => (f_X6_bestSingle_L9 (nI c) looks bits (nI n) mbride 100 (fun z => some z) f z.1 z.2.1 (nI i), f_X9_single_L21 (nI n) (nI c) mlooks mbride 100 K f z.1 z.2.2 (nI i))) c
        (fun i z => z.1 = -6 ∨ ∃ s, s < c ∧ z.1 = nI s ∧ z.2.1 = nI (cnt (fun k => !decide (mlooks (8 * s + k) = 111)) n * 9 + cnt (fun k => decide (mlooks (8 * s + k) = 104)) n) ∧ z.2.2 = nI (10 * cnt (fun k => !decide (mlooks (8 * s + k) = 111)) n + cnt (fun k => decide (mlooks (8 * s + k) = 104)) n))
        (fun z => ∃ B Lw, z.1 = some B ∧ z.2 = K B Lw ∧ (B = -6 ∨ ∃ s, s < c ∧ B = nI s ∧ Lw = nI (10 * cnt (fun k => !decide (mlooks (8 * s + k) = 111)) n + cnt (fun k => decide (mlooks (8 * s + k) = 104)) n))) ?_ ?_ 100 0 (-6, 0, 0) (by omega) (by omega) (Or.inl rfl)
      · rintro f i ⟨B, Fw, Lw⟩ hi hI ih
        dsimp only at hI ih ⊢
        obtain ⟨b, b1, b2, b3, b4⟩ := hbad i hi
        rw [f_X6_bestSingle_L9, f_X9_single_L21]
        rw [if_neg (nI_ge hi (by omega)), if_neg (nI_ge hi (by omega)), every_n n n2, badAll_n (by omega) n2 b1 b2, hid_n (by omega) n2 (by omega), mBadIn_n (by omega) n2 (by omega), mHid_n (by omega) n2 (by omega), b4, hhid i hi]
        simp only [bd_some, lc, nI_1, l_9, l_10, pk_mul, nI_add]
        have c1 := cnt_le (fun k => !decide (mlooks (8 * i + k) = 111)) n
        have c2 := cnt_le (fun k => decide (mlooks (8 * i + k) = 104)) n
        -- the new one is taken
        have take : ∃ B' Lw', f_X6_bestSingle_L9 (nI c) looks bits (nI n) mbride 100 (fun z => some z) f (nI i) (nI (cnt (fun k => !decide (mlooks (8 * i + k) = 111)) n * 9 + cnt (fun k => decide (mlooks (8 * i + k) = 104)) n)) (nI (i + 1)) = some B' ∧ f_X9_single_L21 (nI n) (nI c) mlooks mbride 100 K f (nI i) (nI (10 * cnt (fun k => !decide (mlooks (8 * i + k) = 111)) n + cnt (fun k => decide (mlooks (8 * i + k) = 104)) n)) (nI (i + 1)) = K B' Lw' ∧ (B' = -6 ∨ ∃ s, s < c ∧ B' = nI s ∧ Lw' = nI (10 * cnt (fun k => !decide (mlooks (8 * s + k) = 111)) n + cnt (fun k => decide (mlooks (8 * s + k) = 104)) n)) := ih (nI i, nI _, nI _) (Or.inr ⟨i, hi, rfl, rfl, rfl⟩)
        have keep := ih (B, Fw, Lw) hI
        dsimp only at keep
        have cmp : ∃ B' Lw', (if B = -6 then f_X6_bestSingle_L9 (nI c) looks bits (nI n) mbride 100 (fun z => some z) f (nI i) (nI (cnt (fun k => !decide (mlooks (8 * i + k) = 111)) n * 9 + cnt (fun k => decide (mlooks (8 * i + k) = 104)) n)) (nI (i + 1)) else if Fw ≤ nI (cnt (fun k => !decide (mlooks (8 * i + k) = 111)) n * 9 + cnt (fun k => decide (mlooks (8 * i + k) = 104)) n) then f_X6_bestSingle_L9 (nI c) looks bits (nI n) mbride 100 (fun z => some z) f B Fw (nI (i + 1)) else f_X6_bestSingle_L9 (nI c) looks bits (nI n) mbride 100 (fun z => some z) f (nI i) (nI (cnt (fun k => !decide (mlooks (8 * i + k) = 111)) n * 9 + cnt (fun k => decide (mlooks (8 * i + k) = 104)) n)) (nI (i + 1))) = some B' ∧ (if B < 0 then f_X9_single_L21 (nI n) (nI c) mlooks mbride 100 K f (nI i) (nI (10 * cnt (fun k => !decide (mlooks (8 * i + k) = 111)) n + cnt (fun k => decide (mlooks (8 * i + k) = 104)) n)) (nI (i + 1)) else if Lw ≤ nI (10 * cnt (fun k => !decide (mlooks (8 * i + k) = 111)) n + cnt (fun k => decide (mlooks (8 * i + k) = 104)) n) then f_X9_single_L21 (nI n) (nI c) mlooks mbride 100 K f B Lw (nI (i + 1)) else f_X9_single_L21 (nI n) (nI c) mlooks mbride 100 K f (nI i) (nI (10 * cnt (fun k => !decide (mlooks (8 * i + k) = 111)) n + cnt (fun k => decide (mlooks (8 * i + k) = 104)) n)) (nI (i + 1))) = K B' Lw' ∧ (B' = -6 ∨ ∃ s, s < c ∧ B' = nI s ∧ Lw' = nI (10 * cnt (fun k => !decide (mlooks (8 * s + k) = 111)) n + cnt (fun k => decide (mlooks (8 * s + k) = 104)) n)) := by
          rcases hI with rfl | ⟨s, hs, rfl, rfl, rfl⟩
          · rw [if_pos rfl, if_pos m6_lt0]
            exact take
          · have c3 := cnt_le (fun k => !decide (mlooks (8 * s + k) = 111)) n
            have c4 := cnt_le (fun k => decide (mlooks (8 * s + k) = 104)) n
            rw [if_neg (nI_m6 (by omega)), if_neg (nI_pos (by omega))]
            simp only [nI_leI (show cnt (fun k => !decide (mlooks (8 * s + k) = 111)) n * 9 + cnt (fun k => decide (mlooks (8 * s + k) = 104)) n < 2 ^ 31 by omega) (show cnt (fun k => !decide (mlooks (8 * i + k) = 111)) n * 9 + cnt (fun k => decide (mlooks (8 * i + k) = 104)) n < 2 ^ 31 by omega), nI_leI (show 10 * cnt (fun k => !decide (mlooks (8 * s + k) = 111)) n + cnt (fun k => decide (mlooks (8 * s + k) = 104)) n < 2 ^ 31 by omega) (show 10 * cnt (fun k => !decide (mlooks (8 * i + k) = 111)) n + cnt (fun k => decide (mlooks (8 * i + k) = 104)) n < 2 ^ 31 by omega)]
            have w := weigh (b := cnt (fun k => !decide (mlooks (8 * i + k) = 111)) n) (b' := cnt (fun k => !decide (mlooks (8 * s + k) = 111)) n) (h := cnt (fun k => decide (mlooks (8 * i + k) = 104)) n) (h' := cnt (fun k => decide (mlooks (8 * s + k) = 104)) n) (by omega) (by omega)
            simp only [w]
            split
            · exact keep
            · exact take
        rcases hbr with rfl | ⟨br, hbr1, rfl⟩
        · rw [if_pos rfl, if_pos m6_lt0]
          exact cmp
        · rw [if_neg (nI_m6 (by omega)), if_neg (nI_pos (by omega)), isOpen_n (by omega) (by omega) (by omega) b2, mIsOpen_n (by omega) (by omega), bd_some, bd_some, b3 br hbr1]
          by_cases e2 : mlooks (8 * i + br) = 111
          · simp only [e2, decide_true, ↓reduceIte, one_ne]
            exact cmp
          · simp only [e2, decide_false, ↓reduceIte, Bool.false_eq_true]
            exact keep
      · rintro f ⟨B, Fw, Lw⟩ hI
        dsimp only at hI ⊢
        rw [f_X6_bestSingle_L9, f_X9_single_L21, if_pos (Int32.le_refl _), if_pos (Int32.le_refl _)]
        refine ⟨B, Lw, rfl, rfl, ?_⟩
        rcases hI with h | ⟨s, h1, h2, h3, h4⟩
        · exact Or.inl h
        · exact Or.inr ⟨s, h1, h2, h4⟩
    obtain ⟨B, Lw, h1, h2, h3⟩ := key (fun z7 z8 => if 0 ≤ z7 then if p1 = 0 then some z7 else bd (idv z8 (10 : Int32)) fun v17 => some v17 else some (-6 : Int32))
    rw [h1, h2, bd_some]
    rcases h3 with rfl | ⟨s, hs, rfl, rfl⟩
    · rw [if_pos rfl, if_neg (by decide)]
      exact ⟨_, rfl, rfl⟩
    · rw [if_neg (nI_m6 (by omega)), if_pos (nI_pos' (by omega))]
      by_cases e0 : p1 = 0
      · rw [if_pos e0, if_pos e0]
        exact ⟨_, rfl, rfl⟩
      · rw [if_neg e0, if_neg e0]
        obtain ⟨b, b1, b2, b3, b4⟩ := hbad s hs
        have c3 := cnt_le (fun k => !decide (mlooks (8 * s + k) = 111)) n
        have c4 := cnt_le (fun k => decide (mlooks (8 * s + k) = 104)) n
        unfold f_X5_everybody idv
        rw [bd_some, every_n n n2, badAll_n (by omega) n2 b1 b2, b4, if_neg (by decide), bd_some, bd_some, l_10, pk_div (by omega) (by omega) (by omega), show (10 * cnt (fun k => !decide (mlooks (8 * s + k) = 111)) n + cnt (fun k => decide (mlooks (8 * s + k) = 104)) n) / 10 = cnt (fun k => !decide (mlooks (8 * s + k) = 111)) n by omega]
        exact ⟨_, rfl, rfl⟩
  · rw [if_neg e, if_pos rfl, if_pos rfl]
    exact ⟨_, rfl, rfl⟩
