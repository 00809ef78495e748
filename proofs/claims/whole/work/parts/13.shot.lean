theorem shl1 : ∀ k, k < 31 → (1 : Int32) <<< (nI k &&& 31) = nI (2 ^ k) := by decide +kernel
theorem m6_lt0 : ((-6 : Int32) < 0) := by decide
/-- the fault of the pad as a standing -/
theorem pu_faultStand {S M : Nat → Int32} {c n N R C : Nat} (hc : c ≤ 40) (hn : n ≤ 8) (hs : ∀ i, i < c → S i = M i) (hP : R * C ≤ 8) (hP1 : 1 ≤ R * C) (hN : 50 < N) :
    ∃ r, f_X8_standingFault N S (nI c) (nI n) (nI R) (nI C) = some r ∧ f_X9_faultOfStanding N (nI n) (nI R) (nI C) M (nI c) = some r ∧ ((r = -6 ∧ c = n ∧ ∀ i, i < n → ∃ a, a < R * C ∧ M i - 48 = nI a) ∨ ∃ j, j ≤ 40 ∧ r = nI j) := by
  unfold f_X8_standingFault f_X9_faultOfStanding f_X3_faultAsStanding f_X7_places
  simp only [lc, faultLen hc hn, bd_some, pk_mul]
  have key : ∃ r, f_X3_faultAsStanding_L5 S (nI c) (nI n) (nI (R * C)) (some (if c = n then -6 else nI (min c n))) N 0 0 = some r ∧ f_X9_faultOfStanding_L4 (nI n) (nI R) (nI C) M (nI c) (if nI n ≤ nI c then some (-6) else some (nI c)) N 0 0 = some r ∧ ((r = -6 ∧ c = n ∧ ∀ i, i < n → ∃ a, a < R * C ∧ M i - 48 = nI a) ∨ ∃ j, j ≤ 40 ∧ r = nI j) := by
    refine lpI (fun f i (y : Int32) => (f_X3_faultAsStanding_L5 S (nI c) (nI n) (nI (R * C)) (some (if c = n then -6 else nI (min c n))) f y (nI i), f_X9_faultOfStanding_L4 (nI n) (nI R) (nI C) M (nI c) (if nI n ≤ nI c then some (-6) else some (nI c)) f y (nI i))) (min c n) (fun i _ => ∀ j, j < i → ∃ a, a < R * C ∧ M j - 48 = nI a) (fun z => ∃ r, z.1 = some r ∧ z.2 = some r ∧ ((r = -6 ∧ c = n ∧ ∀ i, i < n → ∃ a, a < R * C ∧ M i - 48 = nI a) ∨ ∃ j, j ≤ 40 ∧ r = nI j)) ?_ ?_ N 0 0 (by omega) (by omega) (fun j h => by omega)
    · intro f i y hi hI ih
      have h1 : i < c := by omega
      have h2 : i < n := by omega
      dsimp only
      rw [f_X3_faultAsStanding_L5, f_X9_faultOfStanding_L4]
      rw [if_neg (nI_ge h1 (by omega)), if_neg (nI_ge h2 (by omega)), signAt_n hc h1, bd_some, if_neg (nI_ge h1 (by omega)), ld_n (by omega) (by omega), bd_some, if_neg (show ¬ nI i = nI n from nI_nei (by omega) (by omega) (by omega)), ← hs i h1]
      unfold f_X9_places
      rw [pk_mul, bd_some, within_eq, show nI (R * C) - (1 : Int32) = nI (R * C - 1) by rw [l_1, pk_sub hP1], in_eq2 (a := 0) (by decide) rfl, bd_some, bd_some]
      by_cases e : (0 : Int32) ≤ S i - 48 ∧ S i - 48 ≤ nI (R * C - 1)
      · simp only [if_pos e, one_ne, ↓reduceIte, nI_1]
        split
        · exact ⟨_, rfl, rfl, Or.inr ⟨i, by omega, rfl⟩⟩
        · refine ih _ (fun j hj => ?_)
          by_cases ej : j = i
          · subst ej
            obtain ⟨a, h3, h4⟩ := per_of (n := R * C) (by omega) (by omega) e
            exact ⟨a, h3, by rw [← hs j h1]; exact h4⟩
          · exact hI j (by omega)
      · rw [if_neg e, if_pos rfl, if_pos rfl]
        exact ⟨_, rfl, rfl, Or.inr ⟨i, by omega, rfl⟩⟩
    · intro f y hI
      dsimp only
      rw [f_X3_faultAsStanding_L5, f_X9_faultOfStanding_L4]
      by_cases l : c ≤ n
      · rw [Nat.min_eq_left l] at hI ⊢
        rw [if_pos (Int32.le_refl _), if_pos (Int32.le_refl _)]
        by_cases e : c = n
        · subst e
          rw [if_pos rfl, if_pos (Int32.le_refl _)]
          exact ⟨_, rfl, rfl, Or.inl ⟨rfl, rfl, hI⟩⟩
        · rw [if_neg e, if_neg (nI_ge (by omega) (by omega))]
          exact ⟨_, rfl, rfl, Or.inr ⟨c, by omega, rfl⟩⟩
      · rw [Nat.min_eq_right (by omega), if_neg (nI_ge (by omega) (by omega)), if_pos (Int32.le_refl _), if_neg (nI_ge (by omega) (by omega)), ld_n (by omega) (by omega), bd_some, if_pos rfl, if_neg (by omega)]
        exact ⟨_, rfl, rfl, Or.inr ⟨n, by omega, rfl⟩⟩
  obtain ⟨r, h1, h2, h3⟩ := key
  rw [h1, h2]
  exact ⟨r, rfl, rfl, h3⟩
theorem pu_fault {S M : Nat → Int32} {C K : Int32} (hp : R_pad S C M K) {n c : Nat} {people bride count hands mpeople mshots mbride mhands : Int32} {looks bits mlooks : Nat → Int32} (hsh : R_sh n c people bride count hands looks bits mpeople mshots mlooks mbride mhands)
    {R Co : Nat} {rows columns rise mrows mcolumns mrise : Int32} {talls pairs mtall mpairs : Nat → Int32} (hst : R_st R Co rows columns rise talls pairs mrows mcolumns mrise mtall mpairs) (p1 : Int32) :
    ∃ N r, f_X8_fault N S C people rows columns p1 = some r ∧ f_X9_fault N mpeople mrows mcolumns M K p1 = some r := by
  obtain ⟨k, hk, rfl, rfl, hs, hv⟩ := hp
  obtain ⟨⟨n1, n2, n3⟩, ⟨rfl, rfl, rfl, rfl⟩, -⟩ := hsh
  obtain ⟨⟨r1, r2, r3, r4, r5⟩, ⟨rfl, rfl, rfl, rfl⟩, -⟩ := hst
  have r6 : 1 ≤ R * Co := Nat.mul_pos r1 r3
  refine ⟨100, ?_⟩
  unfold f_X8_fault f_X9_fault
  rw [within_eq, bd_some]
  by_cases e0 : p1 = 0
  · subst e0
    simp only [if_pos (show (0 : Int32) ≤ 0 ∧ (0 : Int32) ≤ 1 by decide), one_ne, ↓reduceIte]
    obtain ⟨r, h1, h2, -⟩ := pu_faultShot (N := 100) hk n2 hs (by omega)
    rw [h1, h2]
    exact ⟨r, rfl, rfl⟩
  · by_cases e1 : p1 = 1
    · subst e1
      simp only [if_pos (show (0 : Int32) ≤ 1 ∧ (1 : Int32) ≤ 1 by decide), one_ne, ↓reduceIte]
      obtain ⟨r, h1, h2, -⟩ := pu_faultStand (N := 100) hk n2 hs r5 r6 (by omega)
      rw [h1, h2]
      exact ⟨r, rfl, rfl⟩
    · rw [if_neg (c := 0 ≤ p1 ∧ p1 ≤ 1), if_pos rfl, if_neg e0, if_neg e1]
      · exact ⟨_, rfl, rfl⟩
      · intro h
        obtain ⟨j, h1, h2, h3⟩ := rg_of (a := 0) (b := 1) (by decide) (by decide) h
        rcases (show j = 0 ∨ j = 1 by omega) with rfl | rfl
        · exact e0 h3
        · exact e1 h3
theorem pu_shot {S M : Nat → Int32} {C K : Int32} (hp : R_pad S C M K) {n c : Nat} {people bride count hands mpeople mshots mbride mhands : Int32} {looks bits mlooks : Nat → Int32} (hsh : R_sh n c people bride count hands looks bits mpeople mshots mlooks mbride mhands) :
    ∃ N r C' count' looks' bits' mshots' K' mlooks' c', f_X8_shot N S C people count looks bits = some (r, C', count', looks', bits') ∧ f_X9_shot N mpeople mshots mlooks M K = some (r, mshots', K', mlooks') ∧ R_pad S C' M K' ∧ R_sh n c' people bride count' hands looks' bits' mpeople mshots' mlooks' mbride mhands := by
  obtain ⟨k, hk, rfl, rfl, hs, hv⟩ := id hp
  obtain ⟨⟨n1, n2, n3⟩, ⟨rfl, rfl, rfl, rfl⟩, hl, hb, hbr, hha⟩ := id hsh
  refine ⟨100, ?_⟩
  unfold f_X8_shot f_X9_shot
  obtain ⟨r, h1, h2, h3⟩ := pu_faultShot (N := 100) hk n2 hs (by omega)
  rw [h1, h2, bd_some, bd_some]
  rcases h3 with ⟨rfl, rfl⟩ | ⟨j, hj, rfl⟩
  · rw [if_pos rfl, if_pos m6_lt0]
    unfold f_X6_isFull f_X6_take f_X6_isFull f_X3_clear
    by_cases e : c = 10
    · subst e
      rw [if_neg (by decide), if_pos (by decide)]
      exact ⟨_, _, _, _, _, _, _, _, _, rfl, rfl, hp, hsh⟩
    · rw [if_pos (show nI c < 10 from nI_lt (b := 10) (by omega) (by omega)), if_neg (show ¬ nI c = 10 from nI_nei (b := 10) e (by omega) (by omega))]
      simp only [bd_some, ↓reduceIte, lc, sti_n (show c < 10 by omega) (show 10 < 2 ^ 31 by omega)]
      have key : ∃ L B ML, f_X6_take_L25 (nI c) S (nI k) (nI k) (fun a b => some (nI c, nI c + 1, a, b)) 100 0 looks (upd bits c 0) = some (nI c, nI c + 1, L, B) ∧ f_X9_shot_L24 (nI k) (nI c) M (fun a => some (nI c + 1 - 1, nI c + 1, 0, a)) 100 0 mlooks = some (nI c + 1 - 1, nI c + 1, 0, ML) ∧ (∃ b, b < 2 ^ k ∧ B c = nI b ∧ (∀ j, j ≠ c → B j = bits j) ∧ (∀ i, i < k → b.testBit i = decide (ML (8 * c + i) = 111)) ∧ (∀ i, i < k → L (8 * c + i) = ML (8 * c + i)) ∧ ∀ j, j < 8 * c → L j = looks j ∧ ML j = mlooks j) := by
        refine lpI (fun f i (z : (Nat → Int32) × (Nat → Int32) × (Nat → Int32)) => (f_X6_take_L25 (nI c) S (nI k) (nI k) (fun a b => some (nI c, nI c + 1, a, b)) f (nI i) z.1 z.2.1, f_X9_shot_L24 (nI k) (nI c) M (fun a => some (nI c + 1 - 1, nI c + 1, 0, a)) f (nI i) z.2.2)) k (fun i z => ∃ b, b < 2 ^ i ∧ z.2.1 c = nI b ∧ (∀ j, j ≠ c → z.2.1 j = bits j) ∧ (∀ t, t < i → b.testBit t = decide (z.2.2 (8 * c + t) = 111)) ∧ (∀ t, t < i → z.1 (8 * c + t) = z.2.2 (8 * c + t)) ∧ ∀ j, j < 8 * c → z.1 j = looks j ∧ z.2.2 j = mlooks j)
          (fun z => ∃ L B ML, z.1 = some (nI c, nI c + 1, L, B) ∧ z.2 = some (nI c + 1 - 1, nI c + 1, 0, ML) ∧ (∃ b, b < 2 ^ k ∧ B c = nI b ∧ (∀ j, j ≠ c → B j = bits j) ∧ (∀ i, i < k → b.testBit i = decide (ML (8 * c + i) = 111)) ∧ (∀ i, i < k → L (8 * c + i) = ML (8 * c + i)) ∧ ∀ j, j < 8 * c → L j = looks j ∧ ML j = mlooks j)) ?_ ?_ 100 0 (looks, upd bits c 0, mlooks) (by omega) (by omega) ⟨0, by omega, upd_s, fun j hj => upd_n hj, fun t ht => by omega, fun t ht => by omega, fun j _ => ⟨rfl, rfl⟩⟩
        · rintro f i ⟨L, B, ML⟩ hi ⟨b, b1, b2, b3, b4, b5, b6⟩ ih
          dsimp only at b2 b3 b4 b5 b6 ih ⊢
          rw [f_X6_take_L25, f_X9_shot_L24]
          rw [if_neg (nI_ge hi (by omega)), signAt_n hk hi, bd_some, if_neg (nI_ge hi (by omega)), ld_n (f := M) (n := 40) (i := i) (by omega) (by omega), bd_some, ← hs i hi]
          rw [show (nI c * (8 : Int32)) + nI i = nI (8 * c + i) by rw [l_8, pk_mul, nI_add, Nat.mul_comm], show ((8 : Int32) * nI c) + nI i = nI (8 * c + i) by rw [l_8, pk_mul, nI_add], sti_n (by omega) (by omega), sti_n (by omega) (by omega), bd_some, bd_some, nI_1 i]
          simp only [lc]
          by_cases e : S i = 111
          · rw [if_pos e, ld_n (by omega) (by omega), bd_some, sti_n (by omega) (by omega), bd_some, shl1 i (by omega), b2, fa_or]
            refine ih (upd L (8 * c + i) (S i), upd B c (nI (b ||| 2 ^ i)), upd ML (8 * c + i) (S i)) ⟨b ||| 2 ^ i, Nat.or_lt_two_pow (by rw [Nat.pow_succ]; omega) (Nat.pow_lt_pow_right (by omega) (by omega)), upd_s, fun j hj => by dsimp only; rw [upd_n hj]; exact b3 j hj, fun t ht => ?_, fun t ht => ?_, fun j hj => ?_⟩
            · show (b ||| 2 ^ i).testBit t = decide (upd ML (8 * c + i) (S i) (8 * c + t) = 111)
              rw [Nat.testBit_or, Nat.testBit_two_pow]
              by_cases et : t = i
              · subst et; rw [upd_s, e]; simp
              · rw [upd_n (by omega), ← b4 t (by omega)]
                simp [show ¬ i = t by omega]
            · dsimp only
              by_cases et : t = i
              · subst et; rw [upd_s, upd_s]
              · rw [upd_n (by omega), upd_n (by omega)]; exact b5 t (by omega)
            · dsimp only
              rw [upd_n (by omega), upd_n (by omega)]; exact b6 j hj
          · rw [if_neg e]
            refine ih (upd L (8 * c + i) (S i), B, upd ML (8 * c + i) (S i)) ⟨b, by rw [Nat.pow_succ]; omega, b2, b3, fun t ht => ?_, fun t ht => ?_, fun j hj => ?_⟩
            · show b.testBit t = decide (upd ML (8 * c + i) (S i) (8 * c + t) = 111)
              by_cases et : t = i
              · subst et; rw [upd_s, Nat.testBit_lt_two_pow b1]; simp [e]
              · rw [upd_n (by omega), ← b4 t (by omega)]
            · dsimp only
              by_cases et : t = i
              · subst et; rw [upd_s, upd_s]
              · rw [upd_n (by omega), upd_n (by omega)]; exact b5 t (by omega)
            · dsimp only
              rw [upd_n (by omega), upd_n (by omega)]; exact b6 j hj
        · rintro f ⟨L, B, ML⟩ hI
          dsimp only at hI ⊢
          rw [f_X6_take_L25, f_X9_shot_L24, if_pos (Int32.le_refl _), if_pos (Int32.le_refl _)]
          exact ⟨L, B, ML, rfl, rfl, hI⟩
      obtain ⟨L, B, ML, h4, h5, b, b1, b2, b3, b4, b5, b6⟩ := key
      rw [h4, h5]
      simp only [bd_some]
      refine ⟨_, _, _, _, _, _, _, _, c + 1, rfl, congrArg (fun z => some (z, nI c + 1, (0 : Int32), ML)) (show nI c + 1 - 1 = nI c by rw [l_1, nI_add, pk_sub (by omega)]; rfl), ⟨0, by omega, rfl, rfl, fun i hi => by omega, fun i hi => by omega⟩, ⟨n1, n2, by omega⟩, ⟨rfl, rfl, nI_1 c, nI_1 c⟩, fun s t hs' ht => ?_, fun s hs' => ?_, hbr, hha⟩
      · by_cases es : s = c
        · subst es; exact b5 t ht
        · obtain ⟨g1, g2⟩ := b6 (8 * s + t) (by omega)
          rw [g1, g2]; exact hl s t (by omega) ht
      · by_cases es : s = c
        · subst es; exact ⟨b, b1, b2, b4⟩
        · obtain ⟨b', g1, g2, g3⟩ := hb s (by omega)
          refine ⟨b', g1, by rw [b3 s es]; exact g2, fun t ht => ?_⟩
          rw [(b6 (8 * s + t) (by omega)).2]; exact g3 t ht
  · rw [if_neg (nI_m6 (by omega)), if_neg (nI_pos (by omega))]
    exact ⟨_, _, _, _, _, _, _, _, _, rfl, rfl, hp, hsh⟩
theorem shHas_eq {c : Nat} (hc : c < 2 ^ 30) (p : Int32) : f_X6_has (nI c) p = some (if 0 ≤ p ∧ p ≤ nI c - 1 then 1 else 0) := by
  unfold f_X6_has
  have e0 : (0 : Int32).toInt = 0 := by decide
  have e1 : (nI c - 1).toInt = (c : Int) - 1 := pk_sub_toInt (b := 1) hc (by omega)
  simp only [fa_lt, fa_le, nI_toInt (show c < 2 ^ 31 by omega), e0, e1]
  split
  · rw [if_neg (by omega)]
  · split
    · rw [if_neg (by omega)]
    · rw [if_pos (by omega)]
theorem shot_of {c : Nat} (hc : c < 2 ^ 30) {p : Int32} (h : 0 ≤ p ∧ p ≤ nI c - 1) : ∃ j, j < c ∧ p = nI j := by
  have e0 : (0 : Int32).toInt = 0 := by decide
  have e1 : (nI c - 1).toInt = (c : Int) - 1 := pk_sub_toInt (b := 1) hc (by omega)
  rw [fa_le, fa_le, e0, e1] at h
  obtain ⟨j, hj, rfl⟩ := nI_of (x := p) (by rw [fa_lt, e0]; omega)
  rw [nI_toInt hj] at h
  exact ⟨j, by omega, rfl⟩
theorem pu_look {n c : Nat} {people bride count hands mpeople mshots mbride mhands : Int32} {looks bits mlooks : Nat → Int32} (hsh : R_sh n c people bride count hands looks bits mpeople mshots mlooks mbride mhands) (p1 p2 : Int32) :
    ∃ r, f_X8_look people count looks p1 p2 = some r ∧ f_X9_look mpeople mshots mlooks p1 p2 = some r := by
  obtain ⟨⟨n1, n2, n3⟩, ⟨rfl, rfl, rfl, rfl⟩, hl, -⟩ := hsh
  unfold f_X8_look f_X9_look
  rw [shHas_eq (by omega), in_eq2 (a := 0) (by decide) rfl, bd_some, bd_some]
  by_cases e : 0 ≤ p1 ∧ p1 ≤ nI c - 1
  · rw [if_pos e, if_neg (by decide), if_neg (by decide), has_eq (by omega) (by omega), isPerson_eq (by omega) (by omega), bd_some, bd_some]
    by_cases e2 : 0 ≤ p2 ∧ p2 ≤ nI (n - 1)
    · rw [if_pos e2, if_neg (by decide), if_neg (by decide)]
      obtain ⟨s, h1, rfl⟩ := shot_of (by omega) e
      obtain ⟨t, h2, rfl⟩ := per_of (by omega) (by omega) e2
      unfold f_X6_lookOf
      rw [show (nI s * (8 : Int32)) + nI t = nI (8 * s + t) by rw [l_8, pk_mul, nI_add, Nat.mul_comm], show ((8 : Int32) * nI s) + nI t = nI (8 * s + t) by rw [l_8, pk_mul, nI_add], ld_n (by omega) (by omega), ld_n (by omega) (by omega), hl s t h1 h2]
      exact ⟨_, rfl, rfl⟩
    · rw [if_neg e2, if_pos rfl, if_pos rfl]
      exact ⟨_, rfl, rfl⟩
  · rw [if_neg e, if_pos rfl, if_pos rfl]
    exact ⟨_, rfl, rfl⟩
