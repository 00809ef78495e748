theorem pick {p : Nat → Nat → Prop} {n : Nat} (h : ∀ k, k < n → ∃ t, p k t) : ∃ T : Nat → Nat, ∀ k, k < n → p k (T k) := by
  refine ⟨fun k => if hk : k < n then Classical.choose (h k hk) else 0, fun k hk => ?_⟩
  dsimp only
  rw [dif_pos hk]
  exact Classical.choose_spec (h k hk)
theorem pu_stair {R C : Nat} {rows columns rise mrows mcolumns mrise changed : Int32} {talls pairs mtall mpairs : Nat → Int32} (hst : R_st R C rows columns rise talls pairs mrows mcolumns mrise mtall mpairs) (p1 p2 : Int32) :
    ∃ r rows' columns' changed' mrows' mcolumns' R' C', f_X8_stair rows columns changed p1 p2 = some (r, rows', columns', changed') ∧ f_X9_stair mrows mcolumns p1 p2 = some (r, mrows', mcolumns') ∧ R_st R' C' rows' columns' rise talls pairs mrows' mcolumns' mrise mtall mpairs ∧ (changed' = 1 ∨ (R' = R ∧ C' = C ∧ rows' = rows ∧ columns' = columns ∧ changed' = changed)) := by
  unfold f_X8_stair f_X9_stair
  simp only [lc]
  rw [within_eq, in_eq2 (a := 1) (b := 3) (by decide) (by decide)]
  simp only [bd_some]
  by_cases e : (1 : Int32) ≤ p1 ∧ p1 ≤ 3
  · simp only [if_pos e, one_ne, ↓reduceIte]
    rw [within_eq, in_eq2 (a := 1) (b := 4) (by decide) (by decide)]
    simp only [bd_some]
    by_cases e2 : (1 : Int32) ≤ p2 ∧ p2 ≤ 4
    · simp only [if_pos e2, one_ne, ↓reduceIte]
      obtain ⟨a, a1, a2, rfl⟩ := rg_of (a := 1) (b := 3) (by omega) (by omega) e
      obtain ⟨b, b1, b2, rfl⟩ := rg_of (a := 1) (b := 4) (by omega) (by omega) e2
      have ab : a * b ≤ 3 * 4 := Nat.mul_le_mul a2 b2
      unfold f_X7_build f_X7_places
      simp only [bd_some, pk_mul, l_8, nI_leI (show a * b < 2 ^ 31 by omega) (show 8 < 2 ^ 31 by omega)]
      by_cases e3 : a * b ≤ 8
      · simp only [if_pos e3]
        obtain ⟨h1, h2, h3⟩ := hst
        exact ⟨_, _, _, _, _, _, a, b, rfl, rfl, ⟨⟨a1, a2, b1, b2, e3⟩, ⟨rfl, rfl, rfl, rfl⟩, h3⟩, Or.inl rfl⟩
      · simp only [if_neg e3]
        exact ⟨_, _, _, _, _, _, R, C, rfl, rfl, hst, Or.inr ⟨rfl, rfl, rfl, rfl, rfl⟩⟩
    · simp only [if_neg e2, ↓reduceIte]
      exact ⟨_, _, _, _, _, _, R, C, rfl, rfl, hst, Or.inr ⟨rfl, rfl, rfl, rfl, rfl⟩⟩
  · simp only [if_neg e, ↓reduceIte]
    exact ⟨_, _, _, _, _, _, R, C, rfl, rfl, hst, Or.inr ⟨rfl, rfl, rfl, rfl, rfl⟩⟩
theorem pu_tall {n c : Nat} {people bride count hands mpeople mshots mbride mhands : Int32} {looks bits mlooks : Nat → Int32} (hsh : R_sh n c people bride count hands looks bits mpeople mshots mlooks mbride mhands) {R C : Nat} {rows columns rise mrows mcolumns mrise changed : Int32} {talls pairs mtall mpairs : Nat → Int32} (hst : R_st R C rows columns rise talls pairs mrows mcolumns mrise mtall mpairs) (p1 p2 : Int32) :
    ∃ r rise' changed' talls' mrise' mtall', f_X8_tall people rise talls changed p1 p2 = some (r, rise', changed', talls') ∧ f_X9_tall mpeople mrise mtall p1 p2 = some (r, mrise', mtall') ∧ R_st R C rows columns rise' talls' pairs mrows mcolumns mrise' mtall' mpairs ∧ (changed' = 1 ∨ (mrise' = mrise ∧ mtall' = mtall ∧ changed' = changed)) := by
  obtain ⟨⟨n1, n2, n3⟩, ⟨rfl, rfl, rfl, rfl⟩, -⟩ := hsh
  obtain ⟨h1, h2, ⟨rfl, hr⟩, ht, hp, hsym⟩ := id hst
  unfold f_X8_tall f_X9_tall f_X7_changeRise f_X7_changeTall
  simp only [lc]
  by_cases em : p1 = -1
  · simp only [if_pos em]
    rw [within_eq, in_eq2 (a := 0) (b := 50) (by decide) (by decide)]
    simp only [bd_some]
    by_cases e : (0 : Int32) ≤ p2 ∧ p2 ≤ 50
    · simp only [if_pos e, one_ne, ↓reduceIte]
      obtain ⟨t, t1, t2, rfl⟩ := rg_of (a := 0) (b := 50) (by omega) (by omega) e
      exact ⟨_, _, _, _, _, _, rfl, rfl, ⟨h1, h2, ⟨rfl, t, t2, rfl⟩, ht, hp, hsym⟩, Or.inl rfl⟩
    · simp only [if_neg e, ↓reduceIte]
      exact ⟨_, _, _, _, _, _, rfl, rfl, hst, Or.inr ⟨rfl, rfl, rfl⟩⟩
  · simp only [if_neg em]
    rw [has_eq (by omega) (by omega), isPerson_eq (by omega) (by omega)]
    simp only [bd_some]
    by_cases ep : 0 ≤ p1 ∧ p1 ≤ nI (n - 1)
    · simp only [if_pos ep, one_ne, ↓reduceIte]
      obtain ⟨j, hj, rfl⟩ := per_of (by omega) (by omega) ep
      rw [within_eq, in_eq2 (a := 0) (b := 250) (by decide) (by decide)]
      simp only [bd_some]
      by_cases e : (0 : Int32) ≤ p2 ∧ p2 ≤ 250
      · simp only [if_pos e, one_ne, ↓reduceIte]
        obtain ⟨t, t1, t2, rfl⟩ := rg_of (a := 0) (b := 250) (by omega) (by omega) e
        obtain ⟨q, q1, q2, q3⟩ := ht j (by omega)
        rw [ld_n (by omega) (by omega), ld_n (by omega) (by omega), sti_n (by omega) (by omega), sti_n (by omega) (by omega), q2, q3]
        simp only [bd_some]
        refine ⟨_, _, _, _, _, _, rfl, rfl, ⟨h1, h2, ⟨rfl, hr⟩, fun k hk => ?_, hp, hsym⟩, Or.inl rfl⟩
        by_cases ek : k = j
        · subst ek; exact ⟨t, t2, upd_s, upd_s⟩
        · rw [upd_n ek, upd_n ek]; exact ht k hk
      · simp only [if_neg e, ↓reduceIte]
        exact ⟨_, _, _, _, _, _, rfl, rfl, hst, Or.inr ⟨rfl, rfl, rfl⟩⟩
    · simp only [if_neg ep, ↓reduceIte]
      exact ⟨_, _, _, _, _, _, rfl, rfl, hst, Or.inr ⟨rfl, rfl, rfl⟩⟩
theorem pu_pair {n c : Nat} {people bride count hands mpeople mshots mbride mhands : Int32} {looks bits mlooks : Nat → Int32} (hsh : R_sh n c people bride count hands looks bits mpeople mshots mlooks mbride mhands) {R C : Nat} {rows columns rise mrows mcolumns mrise changed : Int32} {talls pairs mtall mpairs : Nat → Int32} (hst : R_st R C rows columns rise talls pairs mrows mcolumns mrise mtall mpairs) (p1 p2 p3 : Int32) :
    ∃ r changed' pairs' mpairs', f_X8_pair people pairs changed p1 p2 p3 = some (r, changed', pairs') ∧ f_X9_pair mpeople mpairs p1 p2 p3 = some (r, mpairs') ∧ R_st R C rows columns rise talls pairs' mrows mcolumns mrise mtall mpairs' ∧ (changed' = 1 ∨ (mpairs' = mpairs ∧ changed' = changed)) := by
  obtain ⟨⟨n1, n2, n3⟩, ⟨rfl, rfl, rfl, rfl⟩, -⟩ := hsh
  obtain ⟨h1, h2, h3, ht, hp, hsym⟩ := id hst
  unfold f_X8_pair f_X9_pair f_X7_changePair
  rw [has_eq (by omega) (by omega), isPerson_eq (by omega) (by omega)]
  simp only [bd_some]
  by_cases ep : 0 ≤ p1 ∧ p1 ≤ nI (n - 1)
  · simp only [if_pos ep, one_ne, ↓reduceIte]
    obtain ⟨i, hi, rfl⟩ := per_of (by omega) (by omega) ep
    rw [has_eq (by omega) (by omega), isPerson_eq (by omega) (by omega)]
    simp only [bd_some]
    by_cases eq : 0 ≤ p2 ∧ p2 ≤ nI (n - 1)
    · simp only [if_pos eq, one_ne, ↓reduceIte]
      obtain ⟨j, hj, rfl⟩ := per_of (by omega) (by omega) eq
      rw [within_eq, in_eq2 (a := 0) (b := 2) (by decide) (by decide)]
      simp only [bd_some, nI_eq (show i < 2 ^ 31 by omega) (show j < 2 ^ 31 by omega)]
      by_cases eij : i = j
      · simp only [if_pos eij]
        exact ⟨_, _, _, _, rfl, rfl, hst, Or.inr ⟨rfl, rfl⟩⟩
      · simp only [if_neg eij]
        by_cases e : (0 : Int32) ≤ p3 ∧ p3 ≤ 2
        · simp only [if_pos e, one_ne, ↓reduceIte]
          obtain ⟨t, t1, t2, rfl⟩ := rg_of (a := 0) (b := 2) (by omega) (by omega) e
          obtain ⟨q, q1, q2, q3⟩ := hp (8 * i + j) (by omega)
          have a1 : nI i * (8 : Int32) + nI j = nI (8 * i + j) := by rw [l_8, pk_mul, nI_add, Nat.mul_comm]
          have a2 : nI j * (8 : Int32) + nI i = nI (8 * j + i) := by rw [l_8, pk_mul, nI_add, Nat.mul_comm]
          have a3 : (8 : Int32) * nI i + nI j = nI (8 * i + j) := by rw [l_8, pk_mul, nI_add]
          have a4 : (8 : Int32) * nI j + nI i = nI (8 * j + i) := by rw [l_8, pk_mul, nI_add]
          simp only [a1, a2, a3, a4, ld_n (show 8 * i + j < 64 by omega) (show 64 < 2 ^ 31 by omega), sti_n (show 8 * i + j < 64 by omega) (show 64 < 2 ^ 31 by omega), sti_n (show 8 * j + i < 64 by omega) (show 64 < 2 ^ 31 by omega), bd_some, q2, q3]
          refine ⟨_, _, _, _, rfl, rfl, ⟨h1, h2, h3, ht, fun k hk => ?_, fun a b ha hb => ?_⟩, Or.inl rfl⟩
          · by_cases ek : k = 8 * j + i
            · subst ek; exact ⟨t, t2, upd_s, upd_s⟩
            · rw [upd_n ek, upd_n ek]
              by_cases el : k = 8 * i + j
              · subst el; exact ⟨t, t2, upd_s, upd_s⟩
              · rw [upd_n el, upd_n el]; exact hp k hk
          · simp only [upd]
            by_cases u1 : a = i ∧ b = j
            · obtain ⟨rfl, rfl⟩ := u1
              simp
            · by_cases u2 : a = j ∧ b = i
              · obtain ⟨rfl, rfl⟩ := u2
                simp
              · rw [if_neg (by omega), if_neg (by omega), if_neg (by omega), if_neg (by omega)]
                exact hsym a b ha hb
        · simp only [if_neg e, ↓reduceIte]
          exact ⟨_, _, _, _, rfl, rfl, hst, Or.inr ⟨rfl, rfl⟩⟩
    · simp only [if_neg eq, ↓reduceIte]
      exact ⟨_, _, _, _, rfl, rfl, hst, Or.inr ⟨rfl, rfl⟩⟩
  · simp only [if_neg ep, ↓reduceIte]
    exact ⟨_, _, _, _, rfl, rfl, hst, Or.inr ⟨rfl, rfl⟩⟩
theorem pu_told {S M : Nat → Int32} {Co K : Int32} (hpad : R_pad S Co M K) {n c : Nat} {people bride count hands mpeople mshots mbride mhands : Int32} {looks bits mlooks : Nat → Int32} (hsh : R_sh n c people bride count hands looks bits mpeople mshots mlooks mbride mhands) {flash mflash : Int32} {set mper mshut mpha : Nat → Int32} (hbl : R_bl flash set mper mshut mpha mflash) {tired mtired : Int32} {Q mQ : Nat → Int32} (hod : R_od tired Q mQ mtired) {R C : Nat} {rows columns rise mrows mcolumns mrise : Int32} {talls pairs mtall mpairs : Nat → Int32} (hst : R_st R C rows columns rise talls pairs mrows mcolumns mrise mtall mpairs) (p1 : Int32) :
    ∃ r, f_X8_told Co people bride count hands flash tired Q rows columns rise talls p1 = some r ∧ f_X9_told mpeople mshots mbride mhands mflash mQ mtired mrows mcolumns mrise mtall K p1 = some r := by
  obtain ⟨k, hk, rfl, rfl, -⟩ := hpad
  obtain ⟨⟨n1, n2, n3⟩, ⟨rfl, rfl, rfl, rfl⟩, -, -, ⟨rfl, -⟩, rfl, -⟩ := hsh
  obtain ⟨rfl, -⟩ := hbl
  obtain ⟨rfl, -, hq⟩ := hod
  obtain ⟨-, ⟨rfl, rfl, rfl, rfl⟩, ⟨rfl, -⟩, ht, -⟩ := hst
  unfold f_X8_told f_X9_told f_X2_quartersOf f_X7_tallOf
  have key : ∀ a, 1 ≤ a → a ≤ 20 → f_X9_in (Int32.toInt64 p1) (Int32.toInt64 (nI a)) (Int32.toInt64 (nI (a - 1 + n))) = f_X5_has (nI n) (p1 - nI a) := by
    intro a h0 ha
    rw [in_eq, has_eq (by omega) (by omega)]
    have h : (nI a ≤ p1 ∧ p1 ≤ nI (a - 1 + n)) ↔ (0 ≤ p1 - nI a ∧ p1 - nI a ≤ nI (n - 1)) := by
      constructor
      · intro h
        obtain ⟨j, j1, j2, rfl⟩ := rg_of (by omega) (by omega) h
        rw [pk_sub j1]
        exact per_nI (by omega) (by omega)
      · intro h
        obtain ⟨j, j1, j2⟩ := per_of (by omega) (by omega) h
        have e : p1 = nI (j + a) := by
          rw [← nI_add, ← j2, Int32.sub_add_cancel]
        rw [e, rg_nI (by omega) (by omega) (by omega)]
        omega
    simp only [h]
  have k1 := key 10 (by omega) (by omega)
  have k2 := key 20 (by omega) (by omega)
  rw [show (9 : Int32) + nI n = nI (10 - 1 + n) by rw [l_9, nI_add], show (19 : Int32) + nI n = nI (20 - 1 + n) by rw [show (19 : Int32) = nI 19 from rfl, nI_add], show (10 : Int64) = Int32.toInt64 (nI 10) by decide, show (20 : Int64) = Int32.toInt64 (nI 20) by decide, k1, k2, l_10, l_20, has_eq (by omega) (by omega), has_eq (by omega) (by omega)]
  simp only [bd_some]
  by_cases e1 : 0 ≤ p1 - nI 10 ∧ p1 - nI 10 ≤ nI (n - 1)
  · simp only [if_pos e1, one_ne, ↓reduceIte]
    obtain ⟨j, hj, hp⟩ := per_of (by omega) (by omega) e1
    obtain ⟨t, t1, t2, t3⟩ := ht j (by omega)
    rw [hp, ld_n (by omega) (by omega), ld_n (by omega) (by omega), t2, t3]
    exact ⟨_, rfl, rfl⟩
  · simp only [if_neg e1, ↓reduceIte]
    by_cases e2 : 0 ≤ p1 - nI 20 ∧ p1 - nI 20 ≤ nI (n - 1)
    · simp only [if_pos e2, one_ne, ↓reduceIte]
      obtain ⟨j, hj, hp⟩ := per_of (by omega) (by omega) e2
      obtain ⟨t, t1, t2, t3⟩ := hq j (by omega)
      rw [hp, ld_n (by omega) (by omega), ld_n (by omega) (by omega), t2, t3]
      exact ⟨_, rfl, rfl⟩
    · simp only [if_neg e2, ↓reduceIte]
      suffices h : ∀ X : Option Int32, X.isSome = true → ∃ r, X = some r ∧ X = some r by
        refine h _ ?_
        repeat' split
        all_goals rfl
      intro X hX
      cases X with
      | none => exact absurd hX (by simp)
      | some r => exact ⟨r, rfl, rfl⟩
