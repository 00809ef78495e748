theorem sp0_n {N : Nat} (hN : 100 < N) (set : Nat → Int32) : ∃ s, f_X0_startPeople N set = some s ∧ ∀ k, k < 8 → s (3 * k) = nI 30 ∧ s (3 * k + 1) = nI 2 ∧ s (3 * k + 2) = nI 0 := by
  unfold f_X0_startPeople
  rw [lc]
  refine lpI (fun f i (z : Nat → Int32) => f_X0_startPeople_L2 (fun s => some s) f (nI i) z) 8 (fun i z => ∀ k, k < i → z (3 * k) = nI 30 ∧ z (3 * k + 1) = nI 2 ∧ z (3 * k + 2) = nI 0) (fun z => ∃ s, z = some s ∧ ∀ k, k < 8 → s (3 * k) = nI 30 ∧ s (3 * k + 1) = nI 2 ∧ s (3 * k + 2) = nI 0) ?_ ?_ N 0 set (by omega) (by omega) (fun k h => by omega)
  · intro f i z hi hI ih
    try dsimp only at ih ⊢
    have a0 : nI i * (3 : Int32) + (0 : Int32) = nI (3 * i) := by rw [l_3, pk_mul, l_0, nI_add, Nat.mul_comm]; rfl
    have a1 : nI i * (3 : Int32) + (1 : Int32) = nI (3 * i + 1) := by rw [l_3, pk_mul, l_1, nI_add, Nat.mul_comm]
    have a2 : nI i * (3 : Int32) + (2 : Int32) = nI (3 * i + 2) := by rw [l_3, pk_mul, l_2, nI_add, Nat.mul_comm]
    rw [f_X0_startPeople_L2, if_neg (show ¬ (8 : Int32) ≤ nI i from nI_ge (b := 8) hi (by omega)), a0, a1, a2, sti_n (by omega) (by omega), bd_some, sti_n (by omega) (by omega), bd_some, sti_n (by omega) (by omega), bd_some, nI_1]
    refine ih _ (fun k hk => ?_)
    by_cases e : k = i
    · subst e
      refine ⟨?_, ?_, upd_s⟩
      · rw [upd_n (by omega), upd_n (by omega), upd_s]; rfl
      · rw [upd_n (by omega), upd_s]; rfl
    · rw [upd_n (by omega), upd_n (by omega), upd_n (by omega), upd_n (by omega), upd_n (by omega), upd_n (by omega), upd_n (by omega), upd_n (by omega), upd_n (by omega)]
      exact hI k (by omega)
  · intro f z hI
    try dsimp only
    rw [f_X0_startPeople_L2, if_pos (show (8 : Int32) ≤ nI 8 from Int32.le_refl _)]
    exact ⟨z, rfl, hI⟩
theorem sp2_n {N : Nat} (hN : 100 < N) (q : Nat → Int32) : ∃ s, f_X2_startPeople N q = some s ∧ ∀ k, k < 8 → s k = nI 1 := by
  unfold f_X2_startPeople
  rw [lc]
  refine lpI (fun f i (z : Nat → Int32) => f_X2_startPeople_L2 (fun s => some s) f (nI i) z) 8 (fun i z => ∀ k, k < i → z k = nI 1) (fun z => ∃ s, z = some s ∧ ∀ k, k < 8 → s k = nI 1) ?_ ?_ N 0 q (by omega) (by omega) (fun k h => by omega)
  · intro f i z hi hI ih
    try dsimp only at ih ⊢
    rw [f_X2_startPeople_L2, if_neg (show ¬ (8 : Int32) ≤ nI i from nI_ge (b := 8) hi (by omega)), sti_n (by omega) (by omega), bd_some, nI_1]
    refine ih _ (fun k hk => ?_)
    by_cases e : k = i
    · subst e; exact upd_s
    · rw [upd_n (by omega)]; exact hI k (by omega)
  · intro f z hI
    try dsimp only
    rw [f_X2_startPeople_L2, if_pos (show (8 : Int32) ≤ nI 8 from Int32.le_refl _)]
    exact ⟨z, rfl, hI⟩
theorem sp7_n {N : Nat} (hN : 100 < N) (ta pa : Nat → Int32) : ∃ t p, f_X7_startPeople N ta pa = some (1, t, p) ∧ (∀ k, k < 8 → t k = nI 170) ∧ ∀ k, k < 64 → p k = nI 0 := by
  unfold f_X7_startPeople
  rw [lc]
  refine lpI (fun f i (z : Nat → Int32) => f_X7_startPeople_L2 (fun (st_talls_5 : Nat → Int32) => lc (fun (st_pairs_11 : Nat → Int32) => some ((1 : Int32), st_talls_5, st_pairs_11)) (fun k10 => f_X7_startPeople_L25 k10 N (0 : Int32) pa)) f (nI i) z) 8 (fun i z => ∀ k, k < i → z k = nI 170) (fun z => ∃ t p, z = some (1, t, p) ∧ (∀ k, k < 8 → t k = nI 170) ∧ ∀ k, k < 64 → p k = nI 0) ?_ ?_ N 0 ta (by omega) (by omega) (fun k h => by omega)
  · intro f i z hi hI ih
    try dsimp only at ih ⊢
    rw [f_X7_startPeople_L2, if_neg (show ¬ (8 : Int32) ≤ nI i from nI_ge (b := 8) hi (by omega)), sti_n (by omega) (by omega), bd_some, nI_1]
    refine ih _ (fun k hk => ?_)
    by_cases e : k = i
    · subst e; exact upd_s
    · rw [upd_n (by omega)]; exact hI k (by omega)
  · intro f z hI
    try dsimp only
    rw [f_X7_startPeople_L2, if_pos (show (8 : Int32) ≤ nI 8 from Int32.le_refl _), lc]
    refine lpI (fun f i (w : Nat → Int32) => f_X7_startPeople_L25 (fun (st_pairs_11 : Nat → Int32) => some ((1 : Int32), z, st_pairs_11)) f (nI i) w) 64 (fun i w => ∀ k, k < i → w k = nI 0) (fun w => ∃ t p, w = some (1, t, p) ∧ (∀ k, k < 8 → t k = nI 170) ∧ ∀ k, k < 64 → p k = nI 0) ?_ ?_ N 0 pa (by omega) (by omega) (fun k h => by omega)
    · intro f i z hi hI ih
      try dsimp only at ih ⊢
      rw [f_X7_startPeople_L25, if_neg (show ¬ (64 : Int32) ≤ nI i from nI_ge (b := 64) hi (by omega)), sti_n (by omega) (by omega), bd_some, nI_1]
      refine ih _ (fun k hk => ?_)
      by_cases e : k = i
      · subst e; exact upd_s
      · rw [upd_n (by omega)]; exact hI k (by omega)
    · intro f w hw
      try dsimp only
      rw [f_X7_startPeople_L25, if_pos (show (64 : Int32) ≤ nI 64 from Int32.le_refl _)]
      exact ⟨z, w, rfl, hI, hw⟩
theorem beg_n {N : Nat} (hN : 100 < N) (a b c d e g : Nat → Int32) (p1 : Int32) : ∃ a' b' c' d' e' g', f_X9_begin N a b c d e g p1 = some (p1, 0, -6, 0, a', b', c', d', e', g') ∧ (∀ k, k < 8 → a' k = nI 30 ∧ b' k = nI 2 ∧ c' k = nI 0 ∧ d' k = nI 1 ∧ e' k = nI 170) ∧ ∀ k, k < 64 → g' k = nI 0 := by
  unfold f_X9_begin
  rw [lc]
  refine lpI (fun f i (z : (Nat → Int32) × (Nat → Int32) × (Nat → Int32) × (Nat → Int32) × (Nat → Int32)) => f_X9_begin_L23 (fun (mo_period_9 : Nat → Int32) (mo_shut_10 : Nat → Int32) (mo_phase_11 : Nat → Int32) (mo_quarters_12 : Nat → Int32) (mo_tall_13 : Nat → Int32) => lc (fun (mo_pairs_23 : Nat → Int32) => some (p1, (0 : Int32), (-6 : Int32), (0 : Int32), mo_period_9, mo_shut_10, mo_phase_11, mo_quarters_12, mo_tall_13, mo_pairs_23)) (fun k22 =>
  f_X9_begin_L75 k22 N (0 : Int32) g)) f (nI i) z.1 z.2.1 z.2.2.1 z.2.2.2.1 z.2.2.2.2) 8 (fun i z => ∀ k, k < i → z.1 k = nI 30 ∧ z.2.1 k = nI 2 ∧ z.2.2.1 k = nI 0 ∧ z.2.2.2.1 k = nI 1 ∧ z.2.2.2.2 k = nI 170) (fun z => ∃ a' b' c' d' e' g', z = some (p1, 0, -6, 0, a', b', c', d', e', g') ∧ (∀ k, k < 8 → a' k = nI 30 ∧ b' k = nI 2 ∧ c' k = nI 0 ∧ d' k = nI 1 ∧ e' k = nI 170) ∧ ∀ k, k < 64 → g' k = nI 0) ?_ ?_ N 0 (a, b, c, d, e) (by omega) (by omega) (fun k h => by omega)
  · rintro f i ⟨a, b, c, d, e⟩ hi hI ih
    dsimp only at hI ih ⊢
    rw [f_X9_begin_L23, if_neg (show ¬ (8 : Int32) ≤ nI i from nI_ge (b := 8) hi (by omega)), sti_n (by omega) (by omega), bd_some, sti_n (by omega) (by omega), bd_some, sti_n (by omega) (by omega), bd_some, sti_n (by omega) (by omega), bd_some, sti_n (by omega) (by omega), bd_some, nI_1]
    refine ih (upd a i 30, upd b i 2, upd c i 0, upd d i 1, upd e i 170) (fun k hk => ?_)
    dsimp only
    by_cases e : k = i
    · subst e; exact ⟨upd_s, upd_s, upd_s, upd_s, upd_s⟩
    · rw [upd_n (by omega), upd_n (by omega), upd_n (by omega), upd_n (by omega), upd_n (by omega)]; exact hI k (by omega)
  · rintro f ⟨a, b, c, d, e⟩ hI
    dsimp only at hI ⊢
    rw [f_X9_begin_L23, if_pos (show (8 : Int32) ≤ nI 8 from Int32.le_refl _), lc]
    refine lpI (fun f i (w : Nat → Int32) => f_X9_begin_L75 (fun (mo_pairs_23 : Nat → Int32) => some (p1, (0 : Int32), (-6 : Int32), (0 : Int32), a, b, c, d, e, mo_pairs_23)) f (nI i) w) 64 (fun i w => ∀ k, k < i → w k = nI 0) (fun z => ∃ a' b' c' d' e' g', z = some (p1, 0, -6, 0, a', b', c', d', e', g') ∧ (∀ k, k < 8 → a' k = nI 30 ∧ b' k = nI 2 ∧ c' k = nI 0 ∧ d' k = nI 1 ∧ e' k = nI 170) ∧ ∀ k, k < 64 → g' k = nI 0) ?_ ?_ N 0 g (by omega) (by omega) (fun k h => by omega)
    · intro f i z hi hI ih
      try dsimp only at ih ⊢
      rw [f_X9_begin_L75, if_neg (show ¬ (64 : Int32) ≤ nI i from nI_ge (b := 64) hi (by omega)), sti_n (by omega) (by omega), bd_some, nI_1]
      refine ih _ (fun k hk => ?_)
      by_cases e : k = i
      · subst e; exact upd_s
      · rw [upd_n (by omega)]; exact hI k (by omega)
    · intro f w hw
      try dsimp only
      rw [f_X9_begin_L75, if_pos (show (64 : Int32) ≤ nI 64 from Int32.le_refl _)]
      exact ⟨a, b, c, d, e, w, rfl, hI, hw⟩
theorem pu_people {n c : Nat} {people bride count hands mpeople mshots mbride mhands : Int32} {looks bits mlooks : Nat → Int32} (hsh : R_sh n c people bride count hands looks bits mpeople mshots mlooks mbride mhands) {flash mflash : Int32} {set mper mshut mpha : Nat → Int32} (hbl : R_bl flash set mper mshut mpha mflash) {tired mtired : Int32} {Q mQ : Nat → Int32} (hod : R_od tired Q mQ mtired) {R C : Nat} {rows columns rise mrows mcolumns mrise changed : Int32} {talls pairs mtall mpairs : Nat → Int32} (hst : R_st R C rows columns rise talls pairs mrows mcolumns mrise mtall mpairs) (p1 : Int32) :
    ∃ N r people' bride' count' hands' set' Q' changed' talls' pairs' mpeople' mshots' mbride' mhands' mper' mshut' mpha' mQ' mtall' mpairs' n' c', f_X8_people N people bride count hands set Q talls pairs changed p1 = some (r, people', bride', count', hands', set', Q', changed', talls', pairs') ∧ f_X9_people N mpeople mshots mbride mhands mper mshut mpha mQ mtall mpairs p1 = some (r, mpeople', mshots', mbride', mhands', mper', mshut', mpha', mQ', mtall', mpairs') ∧ R_sh n' c' people' bride' count' hands' looks bits mpeople' mshots' mlooks mbride' mhands' ∧ R_bl flash set' mper' mshut' mpha' mflash ∧ R_od tired Q' mQ' mtired ∧ R_st R C rows columns rise talls' pairs' mrows mcolumns mrise mtall' mpairs' ∧ (changed' = 1 ∨ (n' = n ∧ mtall' = mtall ∧ mpairs' = mpairs ∧ changed' = changed)) := by
  have hsh' := hsh
  obtain ⟨⟨n1, n2, n3⟩, ⟨rfl, rfl, rfl, rfl⟩, -⟩ := hsh'
  refine ⟨101, ?_⟩
  unfold f_X8_people f_X9_people
  rw [within_eq, in_eq2 (a := 1) (b := 8) (by decide) (by decide)]
  simp only [bd_some]
  by_cases e : (1 : Int32) ≤ p1 ∧ p1 ≤ 8
  · simp only [if_pos e, one_ne, ↓reduceIte]
    obtain ⟨m, m1, m2, rfl⟩ := rg_of (a := 1) (b := 8) (by omega) (by omega) e
    obtain ⟨s0, s1, s2⟩ := sp0_n (N := 101) (by omega) set
    obtain ⟨t0, t1, t2⟩ := sp2_n (N := 101) (by omega) Q
    obtain ⟨u0, u1, u2, u3, u4⟩ := sp7_n (N := 101) (by omega) talls pairs
    obtain ⟨a', b', c', d', e', g', b1, b2, b3⟩ := beg_n (N := 101) (by omega) mper mshut mpha mQ mtall mpairs (nI m)
    unfold f_X5_gather f_X6_startPeople
    rw [s1, t1, u2, b1]
    simp only [bd_some]
    obtain ⟨w1, w2, w3⟩ := hbl
    obtain ⟨x1, x2, x3⟩ := hod
    obtain ⟨y1, y2, y3, y4, y5, y6⟩ := hst
    refine ⟨_, _, _, _, _, _, _, _, _, _, _, _, _, _, _, _, _, _, _, _, m, 0, rfl, rfl, ⟨⟨m1, m2, by omega⟩, ⟨rfl, rfl, rfl, rfl⟩, fun s k h => by omega, fun s h => by omega, ⟨rfl, Or.inl rfl⟩, rfl, 0, Nat.two_pow_pos _, rfl⟩, ⟨w1, w2, fun k hk => ⟨30, 2, 0, by omega, by omega, by omega, by omega, (s2 k hk).1, (s2 k hk).2.1, (s2 k hk).2.2, (b2 k hk).1, (b2 k hk).2.1, (b2 k hk).2.2.1⟩⟩, ⟨x1, x2, fun k hk => ⟨1, by omega, t2 k hk, (b2 k hk).2.2.2.1⟩⟩, ⟨y1, y2, y3, fun k hk => ⟨170, by omega, u3 k hk, (b2 k hk).2.2.2.2⟩, fun k hk => ⟨0, by omega, u4 k hk, b3 k hk⟩, fun a b ha hb => by rw [b3 _ (by omega), b3 _ (by omega)]⟩, Or.inl rfl⟩
  · simp only [if_neg e, ↓reduceIte]
    exact ⟨_, _, _, _, _, _, _, _, _, _, _, _, _, _, _, _, _, _, _, _, n, c, rfl, rfl, hsh, hbl, hod, hst, Or.inr ⟨rfl, rfl, rfl, rfl⟩⟩
theorem pu_bride {n c : Nat} {people bride count hands mpeople mshots mbride mhands : Int32} {looks bits mlooks : Nat → Int32} (hsh : R_sh n c people bride count hands looks bits mpeople mshots mlooks mbride mhands) (p1 : Int32) :
    ∃ r bride' mbride', f_X8_bride people bride p1 = some (r, bride') ∧ f_X9_bride mpeople mbride p1 = some (r, mbride') ∧ R_sh n c people bride' count hands looks bits mpeople mshots mlooks mbride' mhands := by
  obtain ⟨⟨n1, n2, n3⟩, ⟨rfl, rfl, rfl, rfl⟩, h3, h4, ⟨rfl, h5⟩, h6⟩ := hsh
  unfold f_X8_bride f_X9_bride
  simp only [lc]
  by_cases em : p1 = -1
  · simp only [if_pos em]
    exact ⟨_, _, _, rfl, rfl, ⟨n1, n2, n3⟩, ⟨rfl, rfl, rfl, rfl⟩, h3, h4, ⟨rfl, Or.inl rfl⟩, h6⟩
  · simp only [if_neg em]
    rw [has_eq (by omega) (by omega), isPerson_eq (by omega) (by omega)]
    simp only [bd_some]
    by_cases ep : 0 ≤ p1 ∧ p1 ≤ nI (n - 1)
    · simp only [if_pos ep, one_ne, ↓reduceIte]
      obtain ⟨j, hj, rfl⟩ := per_of (by omega) (by omega) ep
      exact ⟨_, _, _, rfl, rfl, ⟨n1, n2, n3⟩, ⟨rfl, rfl, rfl, rfl⟩, h3, h4, ⟨rfl, Or.inr ⟨j, hj, rfl⟩⟩, h6⟩
    · simp only [if_neg ep, ↓reduceIte]
      exact ⟨_, _, _, rfl, rfl, ⟨n1, n2, n3⟩, ⟨rfl, rfl, rfl, rfl⟩, h3, h4, ⟨rfl, h5⟩, h6⟩
