theorem pu_say {S M : Nat → Int32} {C K : Int32} (h : R_pad S C M K) (p1 : Int32) : ∃ r C' S' K' M', f_X8_say S C p1 = some (r, C', S') ∧ f_X9_say M K p1 = some (r, K', M') ∧ R_pad S' C' M' K' := by
  obtain ⟨c, hc, rfl, rfl, hs, hv⟩ := h
  unfold f_X8_say f_X9_say
  rw [within_eq, in_eq2 (a := 33) (b := 126) (by decide) (by decide), bd_some, bd_some]
  by_cases hr : (33 : Int32) ≤ p1 ∧ p1 ≤ 126
  · rw [if_pos hr, if_neg (by decide), if_neg (by decide)]
    obtain ⟨v, h1, h2, rfl⟩ := rg_of (a := 33) (b := 126) (by decide) (by decide) hr
    unfold f_X3_isFull f_X3_add f_X3_isFull
    by_cases h4 : c = 40
    · subst h4
      rw [if_neg (by rw [l_40, nI_ltI (by omega) (by omega)]; omega), bd_some, if_neg (by decide), if_pos (by rw [l_40])]
      exact ⟨_, _, _, _, _, rfl, rfl, 40, by omega, rfl, rfl, hs, hv⟩
    · rw [if_pos (by rw [l_40, nI_ltI (by omega) (by omega)]; omega), if_neg (show ¬ nI c = 40 from nI_nei (b := 40) h4 (by omega) (by omega))]
      simp only [bd_some, ↓reduceIte, sti_n (show c < 40 by omega) (show 40 < 2 ^ 31 by omega)]
      refine ⟨_, _, _, _, _, rfl, rfl, c + 1, by omega, nI_1 c, nI_1 c, fun i hi => ?_, fun i hi => ?_⟩
      · by_cases e : i = c
        · subst e; rw [upd_s, upd_s]
        · rw [upd_n e, upd_n e]; exact hs i (by omega)
      · by_cases e : i = c
        · subst e; rw [upd_s]; exact ⟨v, h1, h2, rfl⟩
        · rw [upd_n e]; exact hv i (by omega)
  · rw [if_neg hr, if_pos rfl, if_pos rfl]
    exact ⟨_, _, _, _, _, rfl, rfl, c, hc, rfl, rfl, hs, hv⟩
theorem pu_wipe {S M : Nat → Int32} {C K : Int32} (h : R_pad S C M K) : ∃ r C' K', f_X8_wipe C = some (r, C') ∧ f_X9_wipe K = some (r, K') ∧ R_pad S C' M K' := by
  obtain ⟨c, hc, rfl, rfl, hs, hv⟩ := h
  exact ⟨_, _, _, rfl, rfl, 0, by omega, rfl, rfl, fun i hi => by omega, fun i hi => by omega⟩
theorem isLook_same (x : Int32) : f_X3_isLook x = f_X9_isLook x := rfl
theorem isLook_eq (x : Int32) : ∃ v, f_X9_isLook x = some v := by
  unfold f_X9_isLook
  split
  · exact ⟨_, rfl⟩
  · split
    · exact ⟨_, rfl⟩
    · split
      · exact ⟨_, rfl⟩
      · split <;> exact ⟨_, rfl⟩
theorem signAt_n {S : Nat → Int32} {c i : Nat} (hc : c ≤ 40) (hi : i < c) : f_X3_signAt S (nI c) (nI i) = some (S i) := by
  unfold f_X3_signAt
  rw [if_neg (nI_pos (by omega)), if_pos (nI_lt hi (by omega)), ld_n (by omega) (by omega), bd_some]
theorem faultLen {c n : Nat} (hc : c ≤ 40) (hn : n ≤ 8) : f_X3_faultOfLength (nI c) (nI n) = some (if c = n then -6 else nI (min c n)) := by
  unfold f_X3_faultOfLength imin
  by_cases e : c = n
  · rw [if_pos (by rw [e]), if_pos e]
  · rw [if_neg (by rw [nI_eq (by omega) (by omega)]; exact e), if_neg e]
    by_cases l : n < c
    · rw [if_pos (nI_lt l (by omega)), Nat.min_eq_right (by omega)]
    · rw [if_neg (nI_nlt (by omega) (by omega)), Nat.min_eq_left (by omega)]
/-- the fault of the pad as a shot: the same number on both sides; none only where the signs are as many as people -/
theorem pu_faultShot {S M : Nat → Int32} {c n N : Nat} (hc : c ≤ 40) (hn : n ≤ 8) (hs : ∀ i, i < c → S i = M i) (hN : 50 < N) :
    ∃ r, f_X3_faultAsShot N S (nI c) (nI n) = some r ∧ f_X9_faultOfShot N (nI n) M (nI c) = some r ∧ ((r = -6 ∧ c = n) ∨ ∃ j, j ≤ 40 ∧ r = nI j) := by
  unfold f_X3_faultAsShot f_X9_faultOfShot
  simp only [lc, faultLen hc hn, bd_some]
  refine lpI (fun f i (_ : Unit) => (f_X3_faultAsShot_L2 S (nI c) (nI n) (some (if c = n then -6 else nI (min c n))) f (nI i), f_X9_faultOfShot_L2 (nI n) M (nI c) (if nI n ≤ nI c then some (-6) else some (nI c)) f (nI i))) (min c n) (fun _ _ => True) (fun z => ∃ r, z.1 = some r ∧ z.2 = some r ∧ ((r = -6 ∧ c = n) ∨ ∃ j, j ≤ 40 ∧ r = nI j)) ?_ ?_ N 0 () (by omega) (by omega) trivial
  · intro f i _ hi _ ih
    have h1 : i < c := by omega
    have h2 : i < n := by omega
    dsimp only
    rw [f_X3_faultAsShot_L2, f_X9_faultOfShot_L2]
    rw [if_neg (nI_ge h1 (by omega)), if_neg (nI_ge h2 (by omega)), signAt_n hc h1, bd_some, isLook_same, if_neg (nI_ge h1 (by omega)), if_neg (show ¬ nI i = nI n from nI_nei (by omega) (by omega) (by omega)), ld_n (by omega) (by omega), bd_some, ← hs i h1]
    obtain ⟨v, hv⟩ := isLook_eq (S i)
    rw [hv, bd_some, bd_some]
    by_cases e : v = 0
    · rw [if_pos e, if_pos e]
      exact ⟨_, rfl, rfl, Or.inr ⟨i, by omega, rfl⟩⟩
    · rw [if_neg e, if_neg e, l_1, nI_add]
      exact ih () trivial
  · intro f _ _
    dsimp only
    rw [f_X3_faultAsShot_L2, f_X9_faultOfShot_L2]
    by_cases l : c ≤ n
    · rw [Nat.min_eq_left l, if_pos (Int32.le_refl _), if_pos (Int32.le_refl _)]
      by_cases e : c = n
      · subst e
        rw [if_pos rfl, if_pos (Int32.le_refl _)]
        exact ⟨_, rfl, rfl, Or.inl ⟨rfl, rfl⟩⟩
      · rw [if_neg e, if_neg (nI_ge (by omega) (by omega))]
        exact ⟨_, rfl, rfl, Or.inr ⟨c, by omega, rfl⟩⟩
    · rw [Nat.min_eq_right (by omega), if_neg (nI_ge (by omega) (by omega)), if_pos (Int32.le_refl _), if_neg (nI_ge (by omega) (by omega)), if_pos rfl, if_neg (by omega)]
      exact ⟨_, rfl, rfl, Or.inr ⟨n, by omega, rfl⟩⟩
