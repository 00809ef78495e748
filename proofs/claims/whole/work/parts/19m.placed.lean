def okM (C : Nat) (mrise : Int32) (mtall mpairs : Nat → Int32) : Nat → Nat → Nat → Nat → Bool := okN C mrise.toNatClampNeg (fun k => (mtall k).toNatClampNeg) (fun k => (mpairs k).toNatClampNeg)
/-- what the class remembers of the standings -/
def R_pw (n R C : Nat) (mrise : Int32) (mtall mpairs : Nat → Int32) (changed count : Int32) (first : Nat → Int32) : Prop :=
  changed = 1 ∨ (changed = 0 ∧ n ≤ R * C ∧ count = nI (cE (okM C mrise mtall mpairs) (R * C) n 0 (fun _ => 0)) ∧ ∀ j, j < n → first j = (fE (okM C mrise mtall mpairs) (R * C) n 0 (fun _ => 0)).elim (-6) (fun B => nI (B j)))
theorem st_can {R C : Nat} {rows columns rise mrows mcolumns mrise : Int32} {talls pairs mtall mpairs : Nat → Int32} (hst : R_st R C rows columns rise talls pairs mrows mcolumns mrise mtall mpairs) : mrise.toNatClampNeg ≤ 50 ∧ rise = nI mrise.toNatClampNeg ∧ mrise = nI mrise.toNatClampNeg ∧ (∀ k, k < 8 → (mtall k).toNatClampNeg ≤ 250 ∧ talls k = nI (mtall k).toNatClampNeg ∧ mtall k = nI (mtall k).toNatClampNeg) ∧ (∀ k, k < 64 → (mpairs k).toNatClampNeg ≤ 2 ∧ pairs k = nI (mpairs k).toNatClampNeg ∧ mpairs k = nI (mpairs k).toNatClampNeg) ∧ ∀ a b, a < 8 → b < 8 → (mpairs (8 * a + b)).toNatClampNeg = (mpairs (8 * b + a)).toNatClampNeg := by
  obtain ⟨h1, h2, ⟨rfl, r, hr, hr2⟩, ht, hp, hsym⟩ := hst
  have hrc : mrise.toNatClampNeg = r := by rw [hr2]; exact nI_clamp (by omega)
  refine ⟨by omega, by rw [hrc]; exact hr2, by rw [hrc]; exact hr2, fun k hk => ?_, fun k hk => ?_, fun a b ha hb => by rw [hsym a b ha hb]⟩
  · obtain ⟨t, t1, t2, t3⟩ := ht k hk
    have : (mtall k).toNatClampNeg = t := by rw [t3]; exact nI_clamp (by omega)
    rw [this]
    exact ⟨t1, t2, t3⟩
  · obtain ⟨t, t1, t2, t3⟩ := hp k hk
    have : (mpairs k).toNatClampNeg = t := by rw [t3]; exact nI_clamp (by omega)
    rw [this]
    exact ⟨t1, t2, t3⟩
theorem pu_placed {n c : Nat} {people bride count hands mpeople mshots mbride mhands : Int32} {looks bits mlooks : Nat → Int32} (hsh : R_sh n c people bride count hands looks bits mpeople mshots mlooks mbride mhands) {R C : Nat} {rows columns rise mrows mcolumns mrise changed : Int32} {talls pairs mtall mpairs : Nat → Int32} (hst : R_st R C rows columns rise talls pairs mrows mcolumns mrise mtall mpairs) {pc : Int32} {F : Nat → Int32} (hpw : R_pw n R C mrise mtall mpairs changed pc F) (lv : Nat → Int64) (pp : Int32) (mat mfirst : Nat → Int32) (p1 : Int32) :
    ∃ N q changed' pp' pc' lv' F' mat' mfirst', f_X8_placed N people rows columns rise talls pairs changed lv F pp pc p1 = some (q, changed', pp', pc', lv', F') ∧ f_X9_placed N mpeople mrows mcolumns mrise mtall mpairs mat mfirst p1 = some (q, mat', mfirst') ∧ R_pw n R C mrise mtall mpairs changed' pc' F' := by
  obtain ⟨hr, e1, e2, hT, hH, hS⟩ := st_can hst
  obtain ⟨⟨n1, n2, n3⟩, ⟨rfl, rfl, rfl, rfl⟩, -⟩ := hsh
  obtain ⟨⟨r1, r2, r3, r4, r5⟩, ⟨rfl, rfl, rfl, rfl⟩, ⟨rfl, -⟩, -⟩ := hst
  have r6 : 1 ≤ R * C := Nat.mul_pos r1 r3
  by_cases hnP : n ≤ R * C
  · obtain ⟨m, rfl⟩ : ∃ m, n = m + 1 := ⟨n - 1, by omega⟩
    have hce := cE_le (okM C mrise mtall mpairs) r5 (m + 1) 0 (fun _ => 0)
    have h88 : 8 ^ (m + 1) ≤ 8 ^ 8 := Nat.pow_le_pow_right (by omega) (by omega)
    obtain ⟨t, at2, -, g⟩ := lev_n (n := m + 1) n1 n2 r5 r3 r4 hr hT hH hS m 0 (fun _ => 0) (by omega) (fun j hj => by omega) 0 mfirst (by show 0 + cE (okM C mrise mtall mpairs) (R * C) (m + 1) 0 (fun _ => 0) < 2 ^ 31; omega) (R * C) 0 (upd mat 0 0) (by omega) (fun j hj => by omega) upd_s
    have g1 := g (30 + t) 30 (by omega)
    refine ⟨30 + t, ?_⟩
    have hfind : f_X9_findStandings (30 + t) (nI (m + 1)) (nI R) (nI C) mrise mtall mpairs mat mfirst = some (nI (cE (okM C mrise mtall mpairs) (R * C) (m + 1) 0 (fun _ => 0)), at2, mt (m + 1) 0 (fE (okM C mrise mtall mpairs) (R * C) (m + 1) 0 (fun _ => 0)) mfirst) := by
      unfold f_X9_findStandings
      rw [show sti mat 8 (0 : Int32) (0 : Int32) = some (upd mat 0 0) from sti_n (i := 0) (by omega) (by omega), bd_some, lc]
      refine Eq.trans ?_ (g1.trans ?_)
      · unfold Lp
        rw [← e2, sP, fP, mt_none]
        rfl
      · unfold Lp
        rw [f_X9_findStandings_L11, if_pos (show nI 0 + (-1 : Int32) < 0 by decide), Nat.zero_add]
        rfl
    have hsol : ∃ lv' F' pp', f_X4_solve (30 + t) lv F pp pc (nI R) (nI C) mrise talls pairs changed (nI (m + 1)) = some (pp', nI (cE (okM C mrise mtall mpairs) (R * C) (m + 1) 0 (fun _ => 0)), lv', F', 0) ∧ ∀ j, j < m + 1 → F' j = (fE (okM C mrise mtall mpairs) (R * C) (m + 1) 0 (fun _ => 0)).elim (-6) (fun B => nI (B j)) := by
      rcases hpw with rfl | ⟨rfl, -, rfl, h⟩
      · obtain ⟨lv', F', s1, s2⟩ := stsolve_n (N := 30 + t) (by omega) r5 n1 n2 r3 r4 hr hT hH lv F pp pc
        rw [← e2] at s1
        exact ⟨lv', F', _, s1, s2⟩
      · refine ⟨lv, F, pp, ?_, h⟩
        unfold f_X4_solve
        rw [if_pos rfl]
    obtain ⟨lv', F', pp', s1, s2⟩ := hsol
    unfold f_X8_placed f_X9_placed f_X7_places f_X9_places
    simp only [bd_some, pk_mul, if_pos (nI_le hnP (by omega)), hfind, s1, lc]
    by_cases em : p1 = -1
    · simp only [if_pos em]
      exact ⟨_, _, _, _, _, _, _, _, rfl, rfl, Or.inr ⟨rfl, hnP, rfl, s2⟩⟩
    · simp only [if_neg em]
      rw [has_eq (by omega) (by omega), isPerson_eq (by omega) (by omega)]
      simp only [bd_some]
      by_cases ep : 0 ≤ p1 ∧ p1 ≤ nI (m + 1 - 1)
      · simp only [if_pos ep, one_ne, ↓reduceIte]
        obtain ⟨j, hj, rfl⟩ := per_of (by omega) (by omega) ep
        unfold f_X4_firstOf
        rw [ld_n (show j < 8 by omega) (by omega), ld_n (show j < 8 by omega) (by omega)]
        simp only [bd_some]
        cases hfe : fE (okM C mrise mtall mpairs) (R * C) (m + 1) 0 (fun _ => 0) with
        | none =>
          have h0 := (cf0 (okM C mrise mtall mpairs) (R * C) (m + 1) 0 (fun _ => 0)).mpr hfe
          rw [hfe] at s2
          rw [h0, if_pos (show nI 0 ≤ 0 from Int32.le_refl _)]
          have s3 := s2 j hj
          refine ⟨_, _, _, _, _, _, at2, mt (m + 1) 0 none mfirst, rfl, ?_, Or.inr ⟨rfl, hnP, by rw [h0], by rw [hfe]; exact s2⟩⟩
          rw [s3]
          rfl
        | some B =>
          have h0 : cE (okM C mrise mtall mpairs) (R * C) (m + 1) 0 (fun _ => 0) ≠ 0 := fun h => by
            have := (cf0 (okM C mrise mtall mpairs) (R * C) (m + 1) 0 (fun _ => 0)).mp h
            rw [hfe] at this
            exact absurd this (by simp)
          have s3 := s2 j hj
          rw [hfe] at s3
          rw [if_neg (nI_nle (by omega) (by omega))]
          refine ⟨_, _, _, _, _, _, at2, mt (m + 1) 0 (some B) mfirst, rfl, ?_, Or.inr ⟨rfl, hnP, rfl, s2⟩⟩
          rw [s3]
          unfold mt
          rw [if_pos ⟨rfl, hj⟩]
          rfl
      · simp only [if_neg ep, ↓reduceIte, ite_self]
        exact ⟨_, _, _, _, _, _, _, _, rfl, rfl, hpw⟩
  · refine ⟨1, ?_⟩
    unfold f_X8_placed f_X9_placed f_X7_places f_X9_places
    simp only [bd_some, pk_mul, if_neg (nI_ge (show R * C < n by omega) (by omega))]
    exact ⟨_, _, _, _, _, _, _, _, rfl, rfl, hpw⟩
