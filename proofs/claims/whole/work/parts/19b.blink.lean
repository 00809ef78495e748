theorem set_n {S : Nat → Int32} {k w : Nat} (hk : k < 8) (hw : w < 3) : f_X0_settingOf S (nI k) (nI w) = some (S (3 * k + w)) := by
  unfold f_X0_settingOf
  rw [show (nI k * (3 : Int32)) + nI w = nI (3 * k + w) by rw [l_3, pk_mul, nI_add, Nat.mul_comm], ld_n (by omega) (by omega), bd_some]
theorem upd_id {f : Nat → Int32} {k : Nat} : upd f k (f k) = f := by
  funext j
  by_cases e : j = k
  · subst e; rw [upd_s]
  · rw [upd_n e]
theorem pu_blink {n c : Nat} {people bride count hands mpeople mshots mbride mhands : Int32} {looks bits mlooks : Nat → Int32} (hsh : R_sh n c people bride count hands looks bits mpeople mshots mlooks mbride mhands) {flash mflash : Int32} {S mP mS mF : Nat → Int32} (hbl : R_bl flash S mP mS mF mflash) (p1 p2 p3 : Int32) :
    ∃ r S' mP' mS' mF', f_X8_blink people S p1 p2 p3 = some (r, S') ∧ f_X9_blink mpeople mP mS mF p1 p2 p3 = some (r, mP', mS', mF') ∧ R_bl flash S' mP' mS' mF' mflash := by
  obtain ⟨⟨n1, n2, n3⟩, ⟨rfl, rfl, rfl, rfl⟩, -⟩ := hsh
  obtain ⟨rfl, hfl, hk⟩ := id hbl
  unfold f_X8_blink f_X9_blink
  rw [has_eq (by omega) (by omega), isPerson_eq (by omega) (by omega), bd_some, bd_some]
  by_cases ep : 0 ≤ p1 ∧ p1 ≤ nI (n - 1)
  · simp only [if_pos ep, one_ne, ↓reduceIte]
    obtain ⟨j, hj, rfl⟩ := per_of (by omega) (by omega) ep
    obtain ⟨P, Sh, F, a1, a2, a3, a4, s0, s1, s2, m0, m1, m2⟩ := hk j (by omega)
    unfold f_X0_fits f_X0_change
    -- a change keeps the relation
    have fin : ∀ P' Sh' F', 1 ≤ P' → P' ≤ 60 → Sh' ≤ P' → F' ≤ 59 → ∀ S' : Nat → Int32, S' (3 * j) = nI P' → S' (3 * j + 1) = nI Sh' → S' (3 * j + 2) = nI F' → (∀ i, i ≠ 3 * j → i ≠ 3 * j + 1 → i ≠ 3 * j + 2 → S' i = S i) → R_bl mflash S' (upd mP j (nI P')) (upd mS j (nI Sh')) (upd mF j (nI F')) mflash := by
      intro P' Sh' F' b1 b2 b3 b4 S' t0 t1 t2 t3
      refine ⟨rfl, hfl, fun k hk8 => ?_⟩
      by_cases e : k = j
      · subst e
        exact ⟨P', Sh', F', b1, b2, b3, b4, t0, t1, t2, upd_s, upd_s, upd_s⟩
      · obtain ⟨P2, S2, F2, c1, c2, c3, c4, u0, u1, u2, v0, v1, v2⟩ := hk k hk8
        exact ⟨P2, S2, F2, c1, c2, c3, c4, by rw [t3 _ (by omega) (by omega) (by omega)]; exact u0, by rw [t3 _ (by omega) (by omega) (by omega)]; exact u1, by rw [t3 _ (by omega) (by omega) (by omega)]; exact u2, by rw [upd_n e]; exact v0, by rw [upd_n e]; exact v1, by rw [upd_n e]; exact v2⟩
    have g0 : f_X0_settingOf S (nI j) 0 = some (nI P) := by rw [l_0, set_n (by omega) (by omega)]; exact congrArg some s0
    have g1 : f_X0_settingOf S (nI j) 1 = some (nI Sh) := by rw [l_1, set_n (by omega) (by omega), s1]
    have g2 : f_X0_settingOf S (nI j) 2 = some (nI F) := by rw [l_2, set_n (by omega) (by omega), s2]
    have ix : ∀ w, w < 3 → (nI j * (3 : Int32)) + nI w = nI (3 * j + w) := fun w _ => by rw [l_3, pk_mul, nI_add, Nat.mul_comm]
    simp only [lc, ld_n (show j < 8 by omega) (show 8 < 2 ^ 31 by omega), bd_some, m0, m1, m2]
    by_cases e0 : p2 = 0
    · subst e0
      simp only [↓reduceIte, g0, g1, bd_some]
      have em : imax 1 (nI Sh) = nI (max 1 Sh) := by
        unfold imax
        simp only [l_1, nI_ltI (show 1 < 2 ^ 31 by omega) (show Sh < 2 ^ 31 by omega)]
        split
        · rw [Nat.max_eq_right (by omega)]
        · rw [Nat.max_eq_left (by omega)]
      have en : (if nI Sh ≤ (1 : Int32) then bd (f_X9_in p3.toInt64 1 60) (fun v11 => if v11 = 0 then some ((-2 : Int32), mP, mS, mF) else bd (sti mP 8 (nI j) p3) fun a => bd (sti mS 8 (nI j) (nI Sh)) fun b => bd (sti mF 8 (nI j) (nI F)) fun c => some (nI P, a, b, c)) else bd (f_X9_in p3.toInt64 (nI Sh).toInt64 60) (fun v11 => if v11 = 0 then some ((-2 : Int32), mP, mS, mF) else bd (sti mP 8 (nI j) p3) fun a => bd (sti mS 8 (nI j) (nI Sh)) fun b => bd (sti mF 8 (nI j) (nI F)) fun c => some (nI P, a, b, c))) = bd (f_X9_in p3.toInt64 (nI (max 1 Sh)).toInt64 60) (fun v11 => if v11 = 0 then some ((-2 : Int32), mP, mS, mF) else bd (sti mP 8 (nI j) p3) fun a => bd (sti mS 8 (nI j) (nI Sh)) fun b => bd (sti mF 8 (nI j) (nI F)) fun c => some (nI P, a, b, c)) := by
        by_cases ee : Sh ≤ 1
        · rw [if_pos (show nI Sh ≤ 1 from nI_le (b := 1) ee (by omega)), Nat.max_eq_left ee]
          rfl
        · rw [if_neg (show ¬ nI Sh ≤ 1 from nI_ge (a := 1) (by omega) (by omega)), Nat.max_eq_right (by omega)]
      simp only [show ((0 : Int32) = 1) = False by decide, show ((0 : Int32) = 2) = False by decide, ↓reduceIte]
      rw [en, em, within_eq, in_eq2 (a := nI (max 1 Sh)) (b := 60) rfl (by decide), bd_some, bd_some, bz_if, bd_some]
      by_cases er : nI (max 1 Sh) ≤ p3 ∧ p3 ≤ 60
      · simp only [if_pos er, one_ne, ↓reduceIte]
        obtain ⟨v, v1, v2, rfl⟩ := rg_of (b := 60) (by omega) (by omega) er
        rw [sti_n (by omega) (by omega), sti_n (by omega) (by omega), sti_n (by omega) (by omega), show (nI j * (3 : Int32)) + 0 = nI (3 * j + 0) from ix 0 (by omega), sti_n (by omega) (by omega)]
        simp only [bd_some]
        exact ⟨_, _, _, _, _, rfl, rfl, fin v Sh F (by omega) v2 (by omega) a4 (upd S (3 * j + 0) (nI v)) (by rw [Nat.add_zero, upd_s]) (by rw [upd_n (by omega)]; exact s1) (by rw [upd_n (by omega)]; exact s2) (fun i h1 h2 h3 => upd_n (by omega))⟩
      · simp only [if_neg er, ↓reduceIte]
        exact ⟨_, _, _, _, _, rfl, rfl, hbl⟩
    · by_cases e1 : p2 = 1
      · subst e1
        simp only [show ((1 : Int32) = 0) = False by decide, show ((1 : Int32) = 2) = False by decide, ↓reduceIte, g0, g1, bd_some]
        rw [within_eq, in_eq2 (a := 0) (b := nI P) (by decide) rfl, bd_some, bd_some, bz_if, bd_some]
        by_cases er : 0 ≤ p3 ∧ p3 ≤ nI P
        · simp only [if_pos er, one_ne, ↓reduceIte]
          obtain ⟨v, v1, v2, rfl⟩ := rg_of (a := 0) (by omega) (by omega) er
          rw [sti_n (by omega) (by omega), sti_n (by omega) (by omega), sti_n (by omega) (by omega), show (nI j * (3 : Int32)) + 1 = nI (3 * j + 1) from ix 1 (by omega), sti_n (by omega) (by omega)]
          simp only [bd_some]
          exact ⟨_, _, _, _, _, rfl, rfl, fin P v F (by omega) a2 (by omega) a4 (upd S (3 * j + 1) (nI v)) (by rw [upd_n (by omega)]; exact s0) (by rw [upd_s]) (by rw [upd_n (by omega)]; exact s2) (fun i h1 h2 h3 => upd_n (by omega))⟩
        · simp only [if_neg er, ↓reduceIte]
          exact ⟨_, _, _, _, _, rfl, rfl, hbl⟩
      · by_cases e2 : p2 = 2
        · subst e2
          simp only [show ((2 : Int32) = 0) = False by decide, show ((2 : Int32) = 1) = False by decide, ↓reduceIte, g2, bd_some]
          rw [within_eq, in_eq2 (a := 0) (b := 59) (by decide) (by decide), bd_some, bd_some, bz_if, bd_some]
          by_cases er : (0 : Int32) ≤ p3 ∧ p3 ≤ 59
          · simp only [if_pos er, one_ne, ↓reduceIte]
            obtain ⟨v, v1, v2, rfl⟩ := rg_of (a := 0) (b := 59) (by omega) (by omega) er
            rw [sti_n (by omega) (by omega), sti_n (by omega) (by omega), sti_n (by omega) (by omega), show (nI j * (3 : Int32)) + 2 = nI (3 * j + 2) from ix 2 (by omega), sti_n (by omega) (by omega)]
            simp only [bd_some]
            exact ⟨_, _, _, _, _, rfl, rfl, fin P Sh v (by omega) a2 (by omega) (by omega) (upd S (3 * j + 2) (nI v)) (by rw [upd_n (by omega)]; exact s0) (by rw [upd_n (by omega)]; exact s1) (by rw [upd_s]) (fun i h1 h2 h3 => upd_n (by omega))⟩
          · simp only [if_neg er, ↓reduceIte]
            exact ⟨_, _, _, _, _, rfl, rfl, hbl⟩
        · simp only [e0, e1, e2, ↓reduceIte, bd_some]
          exact ⟨_, _, _, _, _, rfl, rfl, hbl⟩
  · simp only [if_neg ep, ↓reduceIte]
    exact ⟨_, _, _, _, _, rfl, rfl, hbl⟩
theorem pu_flash {flash mflash : Int32} {S mP mS mF : Nat → Int32} (hbl : R_bl flash S mP mS mF mflash) (p1 : Int32) :
    ∃ r flash' mflash', f_X8_flash flash p1 = some (r, flash') ∧ f_X9_flash mflash p1 = some (r, mflash') ∧ R_bl flash' S mP mS mF mflash' := by
  obtain ⟨rfl, hfl, hk⟩ := id hbl
  unfold f_X8_flash f_X9_flash
  rw [within_eq, in_eq2 (a := -1) (b := 999) (by decide) (by decide)]
  simp only [bd_some]
  by_cases e : (-1 : Int32) ≤ p1 ∧ p1 ≤ 999
  · simp only [if_pos e, one_ne, ↓reduceIte]
    refine ⟨_, _, _, rfl, rfl, rfl, ?_, hk⟩
    by_cases e1 : p1 = -1
    · exact Or.inl e1
    · refine Or.inr ?_
      have e0 : ¬ p1 < 0 := by
        intro h
        rw [fa_lt, show (0 : Int32).toInt = 0 by decide] at h
        rw [fa_le, show ((-1 : Int32)).toInt = -1 by decide] at e
        exact e1 ((fa_eq _ _).mpr (by rw [show ((-1 : Int32)).toInt = -1 by decide]; omega))
      obtain ⟨j, h1, h2⟩ := nI_of2 (M := 999) (n := 999) (by decide) e0 e.2
      exact ⟨j, h1, h2⟩
  · simp only [if_neg e, ↓reduceIte]
    exact ⟨_, _, _, rfl, rfl, hbl⟩
/-- who is open at a tenth: the same bits -/
theorem openAt_n {n N t : Nat} (n2 : n ≤ 8) (hN : 20 < N) (ht : t ≤ 2000) {flash : Int32} {S mP mS mF : Nat → Int32} (hbl : R_bl flash S mP mS mF flash) :
    ∃ b, b < 2 ^ n ∧ f_X0_openAt N flash S (nI t) (nI n) = some (nI b) ∧ f_X9_openAt N (nI n) mP mS mF flash (nI t) = some (nI b) := by
  obtain ⟨-, hfl, hk⟩ := hbl
  unfold f_X0_openAt f_X9_openAt f_X0_isFlashed
  simp only [lc]
  have dark : f_X9_openAt_L40 (nI n) mP mS mF (nI t) 1 (fun z => some z) N 0 0 = some (nI 0) := by
    refine lpI (fun f i (z : Int32) => f_X9_openAt_L40 (nI n) mP mS mF (nI t) 1 (fun z => some z) f z (nI i)) n (fun _ z => z = 0) (fun z => z = some (nI 0)) ?_ ?_ N 0 0 (by omega) (by omega) rfl
    · rintro f i _ hi rfl ih
      try dsimp only
      rw [f_X9_openAt_L40, if_neg (nI_ge hi (by omega))]
      simp only [lc, one_ne, ↓reduceIte, nI_1, i_or0]
      exact ih _ rfl
    · rintro f _ rfl
      try dsimp only
      rw [f_X9_openAt_L40, if_pos (Int32.le_refl _)]
      rfl
  have light : ∃ b, b < 2 ^ n ∧ f_X0_openAt_L15 S (nI t) (nI n) (fun z => some z) N 0 0 = some (nI b) ∧ f_X9_openAt_L40 (nI n) mP mS mF (nI t) 0 (fun z => some z) N 0 0 = some (nI b) := by
    refine lpI (fun f i (z : Int32) => (f_X0_openAt_L15 S (nI t) (nI n) (fun z => some z) f z (nI i), f_X9_openAt_L40 (nI n) mP mS mF (nI t) 0 (fun z => some z) f z (nI i))) n (fun i z => ∃ w, w < 2 ^ i ∧ z = nI w) (fun z => ∃ b, b < 2 ^ n ∧ z.1 = some (nI b) ∧ z.2 = some (nI b)) ?_ ?_ N 0 0 (by omega) (by omega) ⟨0, by omega, rfl⟩
    · rintro f i _ hi ⟨w, w1, rfl⟩ ih
      dsimp only at ih ⊢
      obtain ⟨P, Sh, F, a1, a2, a3, a4, s0, s1, s2, m0, m1, m2⟩ := hk i (by omega)
      rw [f_X0_openAt_L15, f_X9_openAt_L40, if_neg (nI_ge hi (by omega)), if_neg (nI_ge hi (by omega))]
      unfold f_X0_isShut
      have g0 : f_X0_settingOf S (nI i) 0 = some (nI P) := by rw [l_0, set_n (by omega) (by omega)]; exact congrArg some s0
      have g1 : f_X0_settingOf S (nI i) 1 = some (nI Sh) := by rw [l_1, set_n (by omega) (by omega), s1]
      have g2 : f_X0_settingOf S (nI i) 2 = some (nI F) := by rw [l_2, set_n (by omega) (by omega), s2]
      have rem : irm (nI t + nI F) (nI P) = some (nI ((t + F) % P)) := by
        unfold irm
        rw [if_neg (show ¬ nI P = 0 from nI_nei (b := 0) (by omega) (by omega) (by omega)), nI_add, pk_rem (by omega) (by omega) (by omega)]
      have hm : (t + F) % P < P := Nat.mod_lt _ (by omega)
      simp only [ld_n (show i < 8 by omega) (show 8 < 2 ^ 31 by omega), m0, m1, m2, g0, g1, g2, bd_some, rem, lc, if_pos (show (1 : Int32) ≤ nI P from nI_le (a := 1) a1 (by omega)), nI_leI (show Sh < 2 ^ 31 by omega) (show (t + F) % P < 2 ^ 31 by omega), nI_ltI (show (t + F) % P < 2 ^ 31 by omega) (show Sh < 2 ^ 31 by omega), nI_1]
      by_cases e : Sh ≤ (t + F) % P
      · simp only [e, show ¬ (t + F) % P < Sh by omega, ↓reduceIte, one_ne, bd_some]
        rw [shl1 i (by omega), fa_or]
        exact ih _ ⟨w ||| 2 ^ i, Nat.or_lt_two_pow (by rw [Nat.pow_succ]; omega) (Nat.pow_lt_pow_right (by omega) (by omega)), rfl⟩
      · simp only [e, show (t + F) % P < Sh by omega, ↓reduceIte, one_ne, bd_some, i_or0]
        exact ih _ ⟨w, by rw [Nat.pow_succ]; omega, rfl⟩
    · rintro f _ ⟨w, w1, rfl⟩
      dsimp only
      rw [f_X0_openAt_L15, f_X9_openAt_L40, if_pos (Int32.le_refl _), if_pos (Int32.le_refl _)]
      exact ⟨w, w1, rfl, rfl⟩
  obtain ⟨b, l1, l2, l3⟩ := light
  rcases hfl with rfl | ⟨fl, hf1, rfl⟩
  · rw [if_pos (by decide), bd_some, if_pos rfl, if_pos (by decide)]
    exact ⟨b, l1, l2, l3⟩
  · rw [if_neg (nI_pos (by omega)), if_neg (nI_pos (by omega)), show nI fl + (1 : Int32) = nI (fl + 1) from nI_1 _, show nI fl + (2 : Int32) = nI (fl + 2) from nI_add fl 2, in_eq, bd_some]
    simp only [rg_nI (show fl + 1 < 2 ^ 31 by omega) (show fl + 2 < 2 ^ 31 by omega) (show t < 2 ^ 31 by omega), nI_eq (show t < 2 ^ 31 by omega) (show fl + 1 < 2 ^ 31 by omega), nI_eq (show t < 2 ^ 31 by omega) (show fl + 2 < 2 ^ 31 by omega)]
    by_cases e : fl + 1 ≤ t ∧ t ≤ fl + 2
    · have : (if t = fl + 1 then some (1 : Int32) else if t = fl + 2 then some 1 else some 0) = some 1 := by
        split
        · rfl
        · rw [if_pos (by omega)]
      rw [this]
      simp only [if_pos e, one_ne, ↓reduceIte, bd_some]
      exact ⟨0, Nat.two_pow_pos _, rfl, dark⟩
    · rw [if_neg (show ¬ t = fl + 1 by omega), if_neg (show ¬ t = fl + 2 by omega)]
      simp only [if_neg e, ↓reduceIte, bd_some]
      exact ⟨b, l1, l2, l3⟩
theorem pu_open {n c : Nat} {people bride count hands mpeople mshots mbride mhands : Int32} {looks bits mlooks : Nat → Int32} (hsh : R_sh n c people bride count hands looks bits mpeople mshots mlooks mbride mhands) {flash mflash : Int32} {S mP mS mF : Nat → Int32} (hbl : R_bl flash S mP mS mF mflash) (p1 : Int32) :
    ∃ N r, f_X8_open N people flash S p1 = some r ∧ f_X9_open N mpeople mP mS mF mflash p1 = some r := by
  obtain ⟨⟨n1, n2, n3⟩, ⟨rfl, rfl, rfl, rfl⟩, -⟩ := hsh
  obtain ⟨rfl, -⟩ := id hbl
  refine ⟨100, ?_⟩
  unfold f_X8_open f_X9_open
  rw [within_eq, in_eq2 (a := 0) (b := 999) (by decide) (by decide), bd_some, bd_some]
  by_cases e : (0 : Int32) ≤ p1 ∧ p1 ≤ 999
  · simp only [if_pos e, one_ne, ↓reduceIte]
    obtain ⟨t, t1, t2, rfl⟩ := rg_of (a := 0) (b := 999) (by omega) (by omega) e
    obtain ⟨b, -, h1, h2⟩ := openAt_n (N := 100) (t := t) n2 (by omega) (by omega) hbl
    rw [h1, h2]
    exact ⟨_, rfl, rfl⟩
  · simp only [if_neg e, ↓reduceIte]
    exact ⟨_, rfl, rfl⟩
