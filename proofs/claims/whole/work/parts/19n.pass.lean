/-! images: the reference's one long row of numbers -/
def fil (b o : Nat) (Y K : Nat → Int32) : Nat → Int32 := fun p => if b ≤ p ∧ p < b + o then Y (p - b) else K p
theorem fil_0 (b : Nat) (Y K : Nat → Int32) : fil b 0 Y K = K := by
  funext p
  unfold fil
  rw [if_neg (by omega)]
theorem fil_in {b o p : Nat} {Y K : Nat → Int32} (h : p < o) : fil b o Y K (b + p) = Y p := by
  unfold fil
  rw [if_pos ⟨by omega, by omega⟩, show b + p - b = p by omega]
theorem fil_out {b o p : Nat} {Y K : Nat → Int32} (h : p < b ∨ b + o ≤ p) : fil b o Y K p = K p := by
  unfold fil
  rw [if_neg (by omega)]
theorem fil_s (b o : Nat) (Y K : Nat → Int32) : upd (fil b o Y K) (b + o) (Y o) = fil b (o + 1) Y K := by
  funext p
  by_cases e : p = b + o
  · subst e
    rw [upd_s, fil_in (by omega)]
  · rw [upd_n e]
    unfold fil
    by_cases h : b ≤ p ∧ p < b + o
    · rw [if_pos h, if_pos ⟨h.1, by omega⟩]
    · rw [if_neg h, if_neg (by omega)]
theorem pass_f {b o : Nat} {Y K : Nat → Int32} {w x : Int32} (h : b + o < 480) (hY : Y o = if w = 0 then K (b + o) else x) : f_X9_pass (fil b o Y K) (nI (b + o)) w x = some (Y o, nI (b + (o + 1)), fil b (o + 1) Y K) := by
  unfold f_X9_pass
  simp only [lc]
  rw [ld_n h (by omega), bd_some, fil_out (p := b + o) (by omega), nI_1]
  by_cases e : w = 0
  · rw [if_pos e] at hY ⊢
    rw [← hY, sti_n h (by omega), bd_some, fil_s]
    rfl
  · rw [if_neg e] at hY ⊢
    rw [← hY, sti_n h (by omega), bd_some, fil_s]
    rfl
theorem passAll_n {N b : Nat} {Y K : Nat → Int32} {w : Int32} {a0 a1 a2 a3 a4 a5 a6 a7 a8 : Int32} {L pe su ph q t pa : Nat → Int32} (hN : 100 < N) (hb : b + 193 ≤ 480)
    (h0 : Y 0 = if w = 0 then K (b + 0) else a0) (h1 : Y 1 = if w = 0 then K (b + 1) else a1) (h2 : Y 2 = if w = 0 then K (b + 2) else a2) (h3 : Y 3 = if w = 0 then K (b + 3) else a3) (h4 : Y 4 = if w = 0 then K (b + 4) else a4) (h5 : Y 5 = if w = 0 then K (b + 5) else a5) (h6 : Y 6 = if w = 0 then K (b + 6) else a6) (h7 : Y 7 = if w = 0 then K (b + 7) else a7) (h8 : Y 8 = if w = 0 then K (b + 8) else a8)
    (hL : ∀ j, j < 80 → Y (9 + j) = if w = 0 then K (b + (9 + j)) else L j)
    (hpe : ∀ k, k < 8 → Y (89 + 5 * k) = if w = 0 then K (b + (89 + 5 * k)) else pe k) (hsu : ∀ k, k < 8 → Y (89 + 5 * k + 1) = if w = 0 then K (b + (89 + 5 * k + 1)) else su k) (hph : ∀ k, k < 8 → Y (89 + 5 * k + 2) = if w = 0 then K (b + (89 + 5 * k + 2)) else ph k) (hq : ∀ k, k < 8 → Y (89 + 5 * k + 3) = if w = 0 then K (b + (89 + 5 * k + 3)) else q k) (ht : ∀ k, k < 8 → Y (89 + 5 * k + 4) = if w = 0 then K (b + (89 + 5 * k + 4)) else t k)
    (hpa : ∀ j, j < 64 → Y (129 + j) = if w = 0 then K (b + (129 + j)) else pa j) :
    ∃ L' pe' su' ph' q' t' pa', f_X9_passAll N a0 a1 L a2 a3 pe su ph a4 q a5 a6 a7 a8 t pa K (nI b) w = some (Y 0, Y 1, Y 2, Y 3, Y 4, Y 5, Y 6, Y 7, Y 8, nI (b + 193), L', pe', su', ph', q', t', pa', fil b 193 Y K) ∧ (∀ j, j < 80 → L' j = Y (9 + j)) ∧ (∀ k, k < 8 → pe' k = Y (89 + 5 * k) ∧ su' k = Y (89 + 5 * k + 1) ∧ ph' k = Y (89 + 5 * k + 2) ∧ q' k = Y (89 + 5 * k + 3) ∧ t' k = Y (89 + 5 * k + 4)) ∧ (∀ j, j < 64 → pa' j = Y (129 + j)) ∧ (∀ j, ¬ j < 8 → t' j = t j) ∧ ∀ j, ¬ j < 64 → pa' j = pa j := by
  have p0 : f_X9_pass K (nI b) w a0 = some (Y 0, nI (b + 1), fil b 1 Y K) := by
    have := pass_f (b := b) (o := 0) (by omega) h0
    rw [fil_0] at this
    exact this
  have p1 := pass_f (b := b) (o := 1) (by omega) h1
  have p2 := pass_f (b := b) (o := 2) (by omega) h2
  have p3 := pass_f (b := b) (o := 3) (by omega) h3
  have p4 := pass_f (b := b) (o := 4) (by omega) h4
  have p5 := pass_f (b := b) (o := 5) (by omega) h5
  have p6 := pass_f (b := b) (o := 6) (by omega) h6
  have p7 := pass_f (b := b) (o := 7) (by omega) h7
  have p8 := pass_f (b := b) (o := 8) (by omega) h8
  unfold f_X9_passAll
  simp only [p0, p1, p2, p3, p4, p5, p6, p7, p8, bd_some, lc]
  refine lpI (fun f i (z : Nat → Int32) => f_X9_passAll_L110 w (fun (mo_keptAt_34 : Int32) (mo_looks_35 : Nat → Int32) (mo_kept_36 : Nat → Int32) => f_X9_passAll_L140 w (fun (mo_keptAt_52 : Int32) (mo_period_53 : Nat → Int32) (mo_shut_54 : Nat → Int32) (mo_phase_55 : Nat → Int32) (mo_quarters_56 : Nat → Int32) (mo_tall_57 : Nat → Int32) (mo_kept_58 : Nat → Int32) => f_X9_passAll_L234 w (fun (mo_keptAt_90 : Int32) (mo_pairs_91 : Nat → Int32) (mo_kept_92 : Nat → Int32) => some (Y 0, Y 1, Y 2, Y 3, Y 4, Y 5, Y 6, Y 7, Y 8, mo_keptAt_90, mo_looks_35, mo_period_53, mo_shut_54, mo_phase_55, mo_quarters_56, mo_tall_57, mo_pairs_91, mo_kept_92)) N (0 : Int32) mo_keptAt_52 pa mo_kept_58) N (0 : Int32) mo_keptAt_34 pe su ph q t mo_kept_36) f (nI i) (nI (b + (9 + i))) z (fil b (9 + i) Y K)) 80 (fun i z => ∀ j, z j = if j < i then Y (9 + j) else L j) (fun z => ∃ L' pe' su' ph' q' t' pa', z = some (Y 0, Y 1, Y 2, Y 3, Y 4, Y 5, Y 6, Y 7, Y 8, nI (b + 193), L', pe', su', ph', q', t', pa', fil b 193 Y K) ∧ (∀ j, j < 80 → L' j = Y (9 + j)) ∧ (∀ k, k < 8 → pe' k = Y (89 + 5 * k) ∧ su' k = Y (89 + 5 * k + 1) ∧ ph' k = Y (89 + 5 * k + 2) ∧ q' k = Y (89 + 5 * k + 3) ∧ t' k = Y (89 + 5 * k + 4)) ∧ (∀ j, j < 64 → pa' j = Y (129 + j)) ∧ (∀ j, ¬ j < 8 → t' j = t j) ∧ ∀ j, ¬ j < 64 → pa' j = pa j) ?_ ?_ N 0 L (by omega) (by omega) (fun j => by rw [if_neg (by omega)])
  · intro f i z hi hI ih
    try dsimp only at ih ⊢
    have pp := pass_f (b := b) (o := 9 + i) (w := w) (x := L i) (by omega) (hL i hi)
    have hz : z i = L i := by rw [hI i, if_neg (by omega)]
    rw [f_X9_passAll_L110, if_neg (show ¬ (80 : Int32) ≤ nI i from nI_ge (b := 80) hi (by omega)), ld_n (by omega) (by omega), bd_some, hz, pp, bd_some]
    dsimp only
    rw [sti_n (by omega) (by omega), bd_some, nI_1]
    refine ih _ (fun j => ?_)
    by_cases e : j = i
    · subst e; rw [upd_s, if_pos (by omega)]
    · rw [upd_n e, hI j]
      by_cases e2 : j < i
      · rw [if_pos e2, if_pos (by omega)]
      · rw [if_neg e2, if_neg (by omega)]
  · intro f z hz
    try dsimp only
    rw [f_X9_passAll_L110, if_pos (show (80 : Int32) ≤ nI 80 from Int32.le_refl _)]
    have hz' : ∀ j, j < 80 → z j = Y (9 + j) := fun j hj => by rw [hz j, if_pos hj]
    refine lpI (fun f i (y : (Nat → Int32) × (Nat → Int32) × (Nat → Int32) × (Nat → Int32) × (Nat → Int32)) => f_X9_passAll_L140 w (fun (mo_keptAt_52 : Int32) (mo_period_53 : Nat → Int32) (mo_shut_54 : Nat → Int32) (mo_phase_55 : Nat → Int32) (mo_quarters_56 : Nat → Int32) (mo_tall_57 : Nat → Int32) (mo_kept_58 : Nat → Int32) => f_X9_passAll_L234 w (fun (mo_keptAt_90 : Int32) (mo_pairs_91 : Nat → Int32) (mo_kept_92 : Nat → Int32) => some (Y 0, Y 1, Y 2, Y 3, Y 4, Y 5, Y 6, Y 7, Y 8, mo_keptAt_90, z, mo_period_53, mo_shut_54, mo_phase_55, mo_quarters_56, mo_tall_57, mo_pairs_91, mo_kept_92)) N (0 : Int32) mo_keptAt_52 pa mo_kept_58) f (nI i) (nI (b + (89 + 5 * i))) y.1 y.2.1 y.2.2.1 y.2.2.2.1 y.2.2.2.2 (fil b (89 + 5 * i) Y K)) 8 (fun i y => ∀ j, y.1 j = (if j < i then Y (89 + 5 * j) else pe j) ∧ y.2.1 j = (if j < i then Y (89 + 5 * j + 1) else su j) ∧ y.2.2.1 j = (if j < i then Y (89 + 5 * j + 2) else ph j) ∧ y.2.2.2.1 j = (if j < i then Y (89 + 5 * j + 3) else q j) ∧ y.2.2.2.2 j = (if j < i then Y (89 + 5 * j + 4) else t j)) (fun z => ∃ L' pe' su' ph' q' t' pa', z = some (Y 0, Y 1, Y 2, Y 3, Y 4, Y 5, Y 6, Y 7, Y 8, nI (b + 193), L', pe', su', ph', q', t', pa', fil b 193 Y K) ∧ (∀ j, j < 80 → L' j = Y (9 + j)) ∧ (∀ k, k < 8 → pe' k = Y (89 + 5 * k) ∧ su' k = Y (89 + 5 * k + 1) ∧ ph' k = Y (89 + 5 * k + 2) ∧ q' k = Y (89 + 5 * k + 3) ∧ t' k = Y (89 + 5 * k + 4)) ∧ (∀ j, j < 64 → pa' j = Y (129 + j)) ∧ (∀ j, ¬ j < 8 → t' j = t j) ∧ ∀ j, ¬ j < 64 → pa' j = pa j) ?_ ?_ N 0 (pe, su, ph, q, t) (by omega) (by omega) (fun j => by simp)
    · rintro f i ⟨y1, y2, y3, y4, y5⟩ hi hI ih
      dsimp only at hI ih ⊢
      obtain ⟨k1, k2, k3, k4, k5⟩ := hI i
      rw [if_neg (by omega)] at k1 k2 k3 k4 k5
      have q1 := pass_f (b := b) (o := 89 + 5 * i) (w := w) (x := pe i) (by omega) (hpe i hi)
      have q2 := pass_f (b := b) (o := 89 + 5 * i + 1) (w := w) (x := su i) (by omega) (hsu i hi)
      have q3 := pass_f (b := b) (o := 89 + 5 * i + 2) (w := w) (x := ph i) (by omega) (hph i hi)
      have q4 := pass_f (b := b) (o := 89 + 5 * i + 3) (w := w) (x := q i) (by omega) (hq i hi)
      have q5 := pass_f (b := b) (o := 89 + 5 * i + 4) (w := w) (x := t i) (by omega) (ht i hi)
      rw [f_X9_passAll_L140, if_neg (show ¬ (8 : Int32) ≤ nI i from nI_ge (b := 8) hi (by omega))]
      simp only [ld_n hi (show 8 < 2 ^ 31 by omega), sti_n hi (show 8 < 2 ^ 31 by omega), bd_some, k1, k2, k3, k4, k5, q1, q2, q3, q4, q5, nI_1]
      refine ih (upd y1 i (Y (89 + 5 * i)), upd y2 i (Y (89 + 5 * i + 1)), upd y3 i (Y (89 + 5 * i + 2)), upd y4 i (Y (89 + 5 * i + 3)), upd y5 i (Y (89 + 5 * i + 4))) (fun j => ?_)
      dsimp only
      by_cases e : j = i
      · subst e
        rw [upd_s, upd_s, upd_s, upd_s, upd_s]
        simp
      · rw [upd_n e, upd_n e, upd_n e, upd_n e, upd_n e]
        have := hI j
        by_cases e2 : j < i
        · simp only [if_pos e2] at this
          simp only [if_pos (show j < i + 1 by omega)]
          exact this
        · simp only [if_neg e2] at this
          simp only [if_neg (show ¬ j < i + 1 by omega)]
          exact this
    · rintro f ⟨y1, y2, y3, y4, y5⟩ hI
      dsimp only at hI ⊢
      rw [f_X9_passAll_L140, if_pos (show (8 : Int32) ≤ nI 8 from Int32.le_refl _)]
      have hI' : ∀ k, k < 8 → y1 k = Y (89 + 5 * k) ∧ y2 k = Y (89 + 5 * k + 1) ∧ y3 k = Y (89 + 5 * k + 2) ∧ y4 k = Y (89 + 5 * k + 3) ∧ y5 k = Y (89 + 5 * k + 4) := fun k hk => by
        have := hI k
        simp only [if_pos hk] at this
        exact this
      refine lpI (fun f i (x : Nat → Int32) => f_X9_passAll_L234 w (fun (mo_keptAt_90 : Int32) (mo_pairs_91 : Nat → Int32) (mo_kept_92 : Nat → Int32) => some (Y 0, Y 1, Y 2, Y 3, Y 4, Y 5, Y 6, Y 7, Y 8, mo_keptAt_90, z, y1, y2, y3, y4, y5, mo_pairs_91, mo_kept_92)) f (nI i) (nI (b + (129 + i))) x (fil b (129 + i) Y K)) 64 (fun i x => ∀ j, x j = if j < i then Y (129 + j) else pa j) (fun z => ∃ L' pe' su' ph' q' t' pa', z = some (Y 0, Y 1, Y 2, Y 3, Y 4, Y 5, Y 6, Y 7, Y 8, nI (b + 193), L', pe', su', ph', q', t', pa', fil b 193 Y K) ∧ (∀ j, j < 80 → L' j = Y (9 + j)) ∧ (∀ k, k < 8 → pe' k = Y (89 + 5 * k) ∧ su' k = Y (89 + 5 * k + 1) ∧ ph' k = Y (89 + 5 * k + 2) ∧ q' k = Y (89 + 5 * k + 3) ∧ t' k = Y (89 + 5 * k + 4)) ∧ (∀ j, j < 64 → pa' j = Y (129 + j)) ∧ (∀ j, ¬ j < 8 → t' j = t j) ∧ ∀ j, ¬ j < 64 → pa' j = pa j) ?_ ?_ N 0 pa (by omega) (by omega) (fun j => by rw [if_neg (by omega)])
      · intro f i x hi hx ih
        try dsimp only at ih ⊢
        have pp := pass_f (b := b) (o := 129 + i) (w := w) (x := pa i) (by omega) (hpa i hi)
        have hxi : x i = pa i := by rw [hx i, if_neg (by omega)]
        rw [f_X9_passAll_L234, if_neg (show ¬ (64 : Int32) ≤ nI i from nI_ge (b := 64) hi (by omega)), ld_n (by omega) (by omega), bd_some, hxi, pp, bd_some]
        dsimp only
        rw [sti_n (by omega) (by omega), bd_some, nI_1]
        refine ih _ (fun j => ?_)
        by_cases e : j = i
        · subst e; rw [upd_s, if_pos (by omega)]
        · rw [upd_n e, hx j]
          by_cases e2 : j < i
          · rw [if_pos e2, if_pos (by omega)]
          · rw [if_neg e2, if_neg (by omega)]
      · intro f x hx
        try dsimp only
        rw [f_X9_passAll_L234, if_pos (show (64 : Int32) ≤ nI 64 from Int32.le_refl _)]
        exact ⟨z, y1, y2, y3, y4, y5, x, rfl, hz', hI', fun j hj => by rw [hx j, if_pos hj], fun j hj => by rw [(hI j).2.2.2.2, if_neg hj], fun j hj => by rw [hx j, if_neg hj]⟩
