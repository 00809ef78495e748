section Count
variable {g : Nat → Nat → Nat → Nat → Bool} {n P : Nat} {lv : Nat → Int64}
/-- the class's bits at level k -/
def Msk (g : Nat → Nat → Nat → Nat → Bool) (n P k : Nat) (A : Nat → Nat) (f : Nat) : Prop := f < 2 ^ 64 ∧ ∀ j b, k ≤ j → j < n → b < 8 → f.testBit (8 * j + b) = (decide (b < P) && gd g A k j b)
def Lvs (g : Nat → Nat → Nat → Nat → Bool) (n P : Nat) (lv : Nat → Int64) : Prop := ∀ k a, k < n → a < P → ∃ w, w < 2 ^ 64 ∧ lv (8 * k + a) = lN w ∧ ∀ j b, k < j → j < n → b < 8 → w.testBit (8 * j + b) = (decide (b < P) && g k a j b)
theorem Msk_s {k a f w : Nat} {A : Nat → Nat} (h : Msk g n P k A f) (hw : w < 2 ^ 64) (hw2 : ∀ j b, k < j → j < n → b < 8 → w.testBit (8 * j + b) = (decide (b < P) && g k a j b)) : Msk g n P (k + 1) (uA A k a) (f &&& w) := by
  obtain ⟨h1, h2⟩ := h
  refine ⟨Nat.lt_of_le_of_lt Nat.and_le_left h1, fun j b j1 j2 hb => ?_⟩
  rw [Nat.testBit_and, h2 j b (by omega) j2 hb, hw2 j b (by omega) j2 hb, gd_s]
  cases decide (b < P) <;> simp
theorem cf_n {N : Nat} (hN : 20 < N) (hn : n ≤ 8) (hP : P ≤ 8) (hl : Lvs g n P lv) : ∀ m k A f F d, k + (m + 1) = n → m < d → Msk g n P k A f → f_X4_countFrom N d lv F (nI n) (nI k) (lN f) = some (nI (cE g P (m + 1) k A), nt k n (fE g P (m + 1) k A) F) := by
  intro m
  induction m with
  | zero =>
    intro k A f F d hk hd hm
    obtain ⟨d, rfl⟩ : ∃ d', d = d' + 1 := ⟨d - 1, by omega⟩
    obtain ⟨h1, h2⟩ := hm
    have hx : f / 2 ^ (8 * k) % 2 ^ 8 < 256 := Nat.mod_lt _ (by decide)
    have hb : ∀ a, a < 8 → (f / 2 ^ (8 * k) % 2 ^ 8).testBit a = (decide (a < P) && gd g A k k a) := fun a ha => by rw [byte_b ha, h2 k a (by omega) (by omega) ha]
    have hb2 : ∀ a, P ≤ a → (f / 2 ^ (8 * k) % 2 ^ 8).testBit a = false := fun a ha => by
      rcases Nat.lt_or_ge a 8 with h | h
      · rw [hb a h, decide_eq_false (by omega)]; rfl
      · exact Nat.testBit_lt_two_pow (Nat.lt_of_lt_of_le hx (Nat.pow_le_pow_right (n := 2) (i := 8) (by decide) h))
    show g_X4_countFrom (f_X4_countFrom N d) N lv F (nI n) (nI k) (lN f) = _
    unfold g_X4_countFrom
    rw [if_neg (nI_pos (by omega)), if_pos (nI_lt (show k < n by omega) (by omega)), show nI n - (1 : Int32) = nI (n - 1) by rw [l_1, pk_sub (by omega)], if_pos (show nI k = nI (n - 1) by rw [show n - 1 = k by omega]), byte_n h1 (by omega), lc]
    rw [bitCount_n (by omega)]
    have hc : cnt (f / 2 ^ (8 * k) % 2 ^ 8).testBit 32 = cE g P 1 k A := by
      rw [show 32 = P + (32 - P) by omega, cnt_stop hb2, cnt_sP, cE]
      apply sP_congr
      intro a ha
      rw [hb a (by omega), decide_eq_true ha, Bool.true_and]
      split <;> rfl
    rw [hc]
    simp only [bd_some]
    by_cases e : f / 2 ^ (8 * k) % 2 ^ 8 = 0
    · rw [if_pos (show nI (f / 2 ^ (8 * k) % 2 ^ 8) = 0 by rw [e]; rfl)]
      have : fE g P 1 k A = none := by
        rw [fE]
        apply fP_none
        intro i hi
        have := hb i (by omega)
        rw [e, Nat.zero_testBit, decide_eq_true hi, Bool.true_and] at this
        rw [if_neg (by rw [← this]; simp)]
      rw [this, nt_none]
    · rw [if_neg (nI_ne0 (by omega) (by omega))]
      obtain ⟨j, j1, j2⟩ := pk_least (fun j => (f / 2 ^ (8 * k) % 2 ^ 8).testBit j = true) (Nat.exists_testBit_of_ne_zero e)
      have j3 : ∀ i, i < j → (f / 2 ^ (8 * k) % 2 ^ 8).testBit i = false := fun i hi => by simpa using j2 i hi
      have jP : j < P := by
        rcases Nat.lt_or_ge j P with h | h
        · exact h
        · have := hb2 j h; rw [j1] at this; exact absurd this (by simp)
      rw [ntz_n (by omega) j1 j3, bd_some]
      have gj : gd g A k k j = true := by
        have := hb j (by omega)
        rw [j1, decide_eq_true jP, Bool.true_and] at this
        exact this.symm
      have fe : fE g P 1 k A = some (uA A k j) := by
        rw [fE]
        refine fP_least jP (by rw [if_pos gj]; rfl) (fun i hi => ?_)
        have := hb i (by omega)
        rw [j3 i hi, decide_eq_true (show i < P by omega), Bool.true_and] at this
        rw [if_neg (by rw [← this]; simp)]
      have nn := note_n (F := F) (show k < n by omega) hn (show uA A k j k = j by unfold uA; rw [if_pos rfl])
      have n1 : nt (k + 1) n (some (uA A k j)) F = F := by
        funext i
        unfold nt
        rw [if_neg (by omega)]
      rw [n1] at nn
      rw [nn, bd_some, fe]
  | succ m ih =>
    intro k A f F d hk hd hm
    obtain ⟨d, rfl⟩ : ∃ d', d = d' + 1 := ⟨d - 1, by omega⟩
    have hm' := hm
    obtain ⟨h1, h2⟩ := hm'
    show g_X4_countFrom (f_X4_countFrom N d) N lv F (nI n) (nI k) (lN f) = _
    unfold g_X4_countFrom
    rw [if_neg (nI_pos (by omega)), if_pos (nI_lt (show k < n by omega) (by omega)), show nI n - (1 : Int32) = nI (n - 1) by rw [l_1, pk_sub (by omega)], if_neg (show ¬ nI k = nI (n - 1) from nI_nei (by omega) (by omega) (by omega)), lc]
    have hb : ∀ a, a < 8 → (f / 2 ^ (8 * k) % 2 ^ 8).testBit a = (decide (a < P) && gd g A k k a) := fun a ha => by rw [byte_b ha, h2 k a (by omega) (by omega) ha]
    have hx : f / 2 ^ (8 * k) % 2 ^ 8 < 256 := Nat.mod_lt _ (by decide)
    have c8 : ∀ p, p ≤ P → sP (fun a => if gd g A k k a then cE g P (m + 1) (k + 1) (uA A k a) else 0) p ≤ 8 * 8 ^ (m + 1) := by
      intro p hp
      refine Nat.le_trans (sP_le (M := 8 ^ (m + 1)) ?_ p) (Nat.mul_le_mul (by omega) (Nat.le_refl _))
      intro a
      split
      · exact cE_le g hP (m + 1) _ _
      · exact Nat.zero_le _
    have c9 : 8 * 8 ^ (m + 1) ≤ 8 * 8 ^ 8 := Nat.mul_le_mul (Nat.le_refl _) (Nat.pow_le_pow_right (by omega) (by omega))
    refine lpI (fun z i (w : Int32 × (Nat → Int32)) => f_X4_countFrom_L64 lv (nI n) (nI k) (lN f) (f_X4_countFrom N d) (fun (z6 : Int32) (pw_first_7 : Nat → Int32) => some (z6, pw_first_7)) z w.1 (nI i) w.2) 8 (fun i w => w.1 = nI (sP (fun a => if gd g A k k a then cE g P (m + 1) (k + 1) (uA A k a) else 0) (min i P)) ∧ w.2 = nt k n (fP (fun a => if gd g A k k a then fE g P (m + 1) (k + 1) (uA A k a) else none) (min i P)) F) (fun w => w = some (nI (cE g P (m + 1 + 1) k A), nt k n (fE g P (m + 1 + 1) k A) F)) ?_ ?_ N 0 (0, F) (by omega) (by omega) ⟨by rw [Nat.zero_min]; rfl, by dsimp only; rw [Nat.zero_min, fP, nt_none]⟩
    · rintro z i ⟨w1, w2⟩ hi ⟨rfl, rfl⟩ ihl
      dsimp only at ihl ⊢
      rw [f_X4_countFrom_L64, if_neg (show ¬ (8 : Int32) ≤ nI i from nI_ge (b := 8) hi (by omega)), byte_n h1 (by omega), nI_1]
      simp only [lc]
      by_cases e : (f / 2 ^ (8 * k) % 2 ^ 8).testBit i = false
      · rw [if_pos ((bit_get0 (by omega) (by omega)).mpr e)]
        refine ihl (nI (sP (fun a => if gd g A k k a then cE g P (m + 1) (k + 1) (uA A k a) else 0) (min i P)), nt k n (fP (fun a => if gd g A k k a then fE g P (m + 1) (k + 1) (uA A k a) else none) (min i P)) F) ?_
        dsimp only
        rcases Nat.lt_or_ge i P with hp | hp
        · rw [hb i hi, decide_eq_true hp, Bool.true_and] at e
          rw [Nat.min_eq_left (show i ≤ P by omega), Nat.min_eq_left (show i + 1 ≤ P by omega), sP, fP, e]
          exact ⟨rfl, by rw [show ((if false = true then fE g P (m + 1) (k + 1) (uA A k i) else none) : Option (Nat → Nat)) = none from rfl, Option.or_none]⟩
        · rw [Nat.min_eq_right (show P ≤ i by omega), Nat.min_eq_right (show P ≤ i + 1 by omega)]
          exact ⟨rfl, rfl⟩
      · rw [if_neg (fun h => e ((bit_get0 (by omega) (by omega)).mp h))]
        have e' : (f / 2 ^ (8 * k) % 2 ^ 8).testBit i = true := by simpa using e
        rw [hb i hi, Bool.and_eq_true, decide_eq_true_eq] at e'
        obtain ⟨hp, eg⟩ := e'
        obtain ⟨w, x1, x2, x3⟩ := hl k i (by omega) hp
        rw [l_8, pk_mul, nI_add, Nat.mul_comm k 8, ld_n (show 8 * k + i < 64 by omega) (by omega), bd_some, x2, wb_and h1 x1, nI_1 k, ih (k + 1) (uA A k i) (f &&& w) _ d (by omega) (by omega) (Msk_s hm x1 x3), bd_some]
        dsimp only
        refine fa_post (P := fun q => q = _) ?_ (ihl (nI (sP (fun a => if gd g A k k a then cE g P (m + 1) (k + 1) (uA A k a) else 0) (i + 1)), nt k n (fP (fun a => if gd g A k k a then fE g P (m + 1) (k + 1) (uA A k a) else none) (i + 1)) F) ⟨by dsimp only; rw [Nat.min_eq_left (show i + 1 ≤ P by omega)], by dsimp only; rw [Nat.min_eq_left (show i + 1 ≤ P by omega)]⟩)
        dsimp only
        rw [Nat.min_eq_left (show i ≤ P by omega), sP, fP, if_pos eg, if_pos eg, nI_add]
        have hbd : ∀ B, fP (fun a => if gd g A k k a then fE g P (m + 1) (k + 1) (uA A k a) else none) i = some B → ∀ j, k ≤ j → j < n → B j < 2 ^ 31 := by
          intro B hB j j1 j2
          obtain ⟨a, a1, a2⟩ := fP_some hB
          split at a2
          · by_cases ej : j = k
            · subst ej
              rw [fE_k a2]; omega
            · have := (fE_b g P (m + 1) (k + 1) _ B a2).2 j (by omega) (by omega)
              omega
          · exact absurd a2 (by simp)
        rw [← nt_or hbd]
        cases hfe : fE g P (m + 1) (k + 1) (uA A k i) with
        | none =>
          have h0 := (cf0 g P (m + 1) (k + 1) (uA A k i)).mpr hfe
          rw [h0, if_pos (show nI 0 ≤ 0 from Int32.le_refl _), nt_none, nt_none]
        | some B =>
          have h0 : cE g P (m + 1) (k + 1) (uA A k i) ≠ 0 := fun h => by
            have := (cf0 g P (m + 1) (k + 1) (uA A k i)).mp h
            rw [hfe] at this
            exact absurd this (by simp)
          have h8 := cE_le g hP (m + 1) (k + 1) (uA A k i)
          have h9 : 8 ^ (m + 1) ≤ 8 ^ 8 := Nat.pow_le_pow_right (by omega) (by omega)
          rw [if_neg (nI_nle (by omega) (by omega)), note_n (by omega) hn (fE_k hfe), bd_some]
    · rintro z ⟨w1, w2⟩ ⟨rfl, rfl⟩
      dsimp only
      rw [f_X4_countFrom_L64, if_pos (show (8 : Int32) ≤ nI 8 from Int32.le_refl _), Nat.min_eq_right hP]
      rfl
end Count
