/-! the plain world: numbers as nI, loops by invariants -/
theorem l_0 : (0 : Int32) = nI 0 := rfl
theorem l_1 : (1 : Int32) = nI 1 := rfl
theorem l_2 : (2 : Int32) = nI 2 := rfl
theorem l_3 : (3 : Int32) = nI 3 := rfl
theorem l_4 : (4 : Int32) = nI 4 := rfl
theorem l_5 : (5 : Int32) = nI 5 := rfl
theorem l_6 : (6 : Int32) = nI 6 := rfl
theorem l_7 : (7 : Int32) = nI 7 := rfl
theorem l_8 : (8 : Int32) = nI 8 := rfl
theorem l_9 : (9 : Int32) = nI 9 := rfl
theorem l_10 : (10 : Int32) = nI 10 := rfl
theorem l_20 : (20 : Int32) = nI 20 := rfl
theorem l_24 : (24 : Int32) = nI 24 := rfl
theorem l_26 : (26 : Int32) = nI 26 := rfl
theorem l_30 : (30 : Int32) = nI 30 := rfl
theorem l_31 : (31 : Int32) = nI 31 := rfl
theorem l_33 : (33 : Int32) = nI 33 := rfl
theorem l_40 : (40 : Int32) = nI 40 := rfl
theorem l_48 : (48 : Int32) = nI 48 := rfl
theorem l_50 : (50 : Int32) = nI 50 := rfl
theorem l_59 : (59 : Int32) = nI 59 := rfl
theorem l_60 : (60 : Int32) = nI 60 := rfl
theorem l_64 : (64 : Int32) = nI 64 := rfl
theorem l_74 : (74 : Int32) = nI 74 := rfl
theorem l_75 : (75 : Int32) = nI 75 := rfl
theorem l_80 : (80 : Int32) = nI 80 := rfl
theorem l_100 : (100 : Int32) = nI 100 := rfl
theorem l_104 : (104 : Int32) = nI 104 := rfl
theorem l_111 : (111 : Int32) = nI 111 := rfl
theorem l_115 : (115 : Int32) = nI 115 := rfl
theorem l_116 : (116 : Int32) = nI 116 := rfl
theorem l_126 : (126 : Int32) = nI 126 := rfl
theorem l_170 : (170 : Int32) = nI 170 := rfl
theorem l_240 : (240 : Int32) = nI 240 := rfl
theorem l_250 : (250 : Int32) = nI 250 := rfl
theorem l_255 : (255 : Int32) = nI 255 := rfl
theorem l_999 : (999 : Int32) = nI 999 := rfl
theorem l_1000 : (1000 : Int32) = nI 1000 := rfl
theorem l_9999 : (9999 : Int32) = nI 9999 := rfl
theorem l_65537 : (65537 : Int32) = nI 65537 := rfl
theorem ld_n {α : Type} {f : Nat → α} {n i : Nat} (h : i < n) (hn : n < 2 ^ 31) : ld f n (nI i) = some (f i) := by
  unfold ld
  rw [if_pos (inB_of (vp_in_nI h hn)), nI_clamp (by omega)]
theorem sti_n {f : Nat → Int32} {n i : Nat} {x : Int32} (h : i < n) (hn : n < 2 ^ 31) : sti f n (nI i) x = some (upd f i x) := by
  unfold sti
  rw [if_pos (inB_of (vp_in_nI h hn)), nI_clamp (by omega)]
theorem stl_n {f : Nat → Int64} {n i : Nat} {x : Int64} (h : i < n) (hn : n < 2 ^ 31) : stl f n (nI i) x = some (vp_updL f i x) := by
  unfold stl
  rw [if_pos (inB_of (vp_in_nI h hn)), nI_clamp (by omega)]
theorem upd_s {f : Nat → Int32} {k : Nat} {x : Int32} : upd f k x k = x := by simp [upd]
theorem upd_n {f : Nat → Int32} {k j : Nat} {x : Int32} (h : j ≠ k) : upd f k x j = f j := by simp [upd, h]
theorem nI_m6 {j : Nat} (h : j < 2 ^ 31) : ¬ nI j = (-6 : Int32) := by
  rw [fa_eq, nI_toInt h, show ((-6 : Int32)).toInt = -6 by decide]
  omega
theorem nI_m1 {j : Nat} (h : j < 2 ^ 31) : ¬ nI j = (-1 : Int32) := by
  rw [fa_eq, nI_toInt h, show ((-1 : Int32)).toInt = -1 by decide]
  omega
theorem m6_nI {j : Nat} (h : j < 2 ^ 31) : ¬ (-6 : Int32) = nI j := fun e => nI_m6 h e.symm
theorem m1_nI {j : Nat} (h : j < 2 ^ 31) : ¬ (-1 : Int32) = nI j := fun e => nI_m1 h e.symm
/-- a loop that counts up to b, by an invariant; what holds of its answer -/
theorem lpI {σ γ : Type} (L : Nat → Nat → σ → γ) (b : Nat) (Inv : Nat → σ → Prop) (P : γ → Prop)
    (hs : ∀ f i a, i < b → Inv i a → (∀ a', Inv (i + 1) a' → P (L f (i + 1) a')) → P (L (f + 1) i a))
    (hx : ∀ f a, Inv b a → P (L (f + 1) b a)) : ∀ (f i : Nat) (a : σ), i ≤ b → b < i + f → Inv i a → P (L f i a) := by
  intro f
  induction f with
  | zero => intro i a h1 h2; omega
  | succ f ih =>
    intro i a h1 h2 h3
    rcases Nat.lt_or_ge i b with h | h
    · exact hs f i a h h3 (fun a' h4 => ih (i + 1) a' (by omega) (by omega) h4)
    · have e : i = b := by omega
      subst e
      exact hx f a h3
/-- the same, by a measure that falls -/
theorem lpM {σ γ : Type} (L : Nat → σ → γ) (μ : σ → Nat) (Inv : σ → Prop) (P : γ → Prop)
    (hs : ∀ f a, Inv a → (∀ a', Inv a' → μ a' < μ a → P (L f a')) → P (L (f + 1) a)) : ∀ (f : Nat) (a : σ), μ a < f → Inv a → P (L f a) := by
  intro f
  induction f with
  | zero => intro a h; omega
  | succ f ih =>
    intro a h1 h3
    exact hs f a h3 (fun a' h4 h5 => ih a' (by omega) h4)
theorem within_eq (v a b : Int32) : f_X8_within v a b = some (if a ≤ v ∧ v ≤ b then 1 else 0) := by
  unfold f_X8_within
  simp only [fa_lt, fa_le]
  split
  · rw [if_neg (by omega)]
  · split
    · rw [if_neg (by omega)]
    · rw [if_pos (by omega)]
theorem in_eq (v a b : Int32) : f_X9_in v.toInt64 a.toInt64 b.toInt64 = some (if a ≤ v ∧ v ≤ b then 1 else 0) := by
  unfold f_X9_in
  simp only [lg_cmp_lt, lg_cmp_gt, fa_wide_lt]
  simp only [fa_lt, fa_le]
  split
  · rw [if_neg (by omega)]
  · split
    · rw [if_neg (by omega)]
    · rw [if_pos (by omega)]
theorem in_eq2 {v a b : Int32} {x y : Int64} (hx : x = a.toInt64) (hy : y = b.toInt64) : f_X9_in v.toInt64 x y = some (if a ≤ v ∧ v ≤ b then 1 else 0) := by rw [hx, hy, in_eq]
theorem bz_if (c : Prop) [Decidable c] : bz (if c then 1 else 0) = some (if c then 1 else 0) := by
  unfold bz
  split <;> simp
theorem if10 {c : Prop} [Decidable c] : ((if c then (1 : Int32) else 0) = 0) ↔ ¬ c := by
  split <;> simp_all
/-- a number of the script: outside 0 .. n, or a small number -/
theorem rg_of {v : Int32} {a b : Nat} (ha : a < 2 ^ 31) (hb : b < 2 ^ 31) (h : nI a ≤ v ∧ v ≤ nI b) : ∃ j, a ≤ j ∧ j ≤ b ∧ v = nI j := by
  obtain ⟨h1, h2⟩ := h
  rw [fa_le, nI_toInt ha] at h1
  have h0 : ¬ v < 0 := by
    rw [fa_lt, show (0 : Int32).toInt = 0 by decide]
    omega
  obtain ⟨j, hj, rfl⟩ := nI_of h0
  rw [fa_le, nI_toInt hj, nI_toInt hb] at h2
  rw [nI_toInt hj] at h1
  exact ⟨j, by omega, by omega, rfl⟩
theorem rg_nI {j a b : Nat} (ha : a < 2 ^ 31) (hb : b < 2 ^ 31) (hj : j < 2 ^ 31) : (nI a ≤ nI j ∧ nI j ≤ nI b) ↔ a ≤ j ∧ j ≤ b := by
  rw [nI_leI ha hj, nI_leI hj hb]
theorem has_eq {n : Nat} (hn : n < 2 ^ 31) (h0 : 0 < n) (p : Int32) : f_X5_has (nI n) p = some (if 0 ≤ p ∧ p ≤ nI (n - 1) then 1 else 0) := by
  unfold f_X5_has
  have e0 : (0 : Int32).toInt = 0 := by decide
  simp only [fa_lt, fa_le, nI_toInt hn, nI_toInt (show n - 1 < 2 ^ 31 by omega), e0]
  split
  · rw [if_neg (by omega)]
  · split
    · rw [if_neg (by omega)]
    · rw [if_pos (by omega)]
theorem isPerson_eq {n : Nat} (hn : n < 2 ^ 31) (h0 : 0 < n) (p : Int32) : f_X9_isPerson (nI n) p = some (if 0 ≤ p ∧ p ≤ nI (n - 1) then 1 else 0) := by
  unfold f_X9_isPerson
  rw [show nI n - (1 : Int32) = nI (n - 1) by rw [l_1, pk_sub (by omega)], in_eq2 (a := 0) (by decide) rfl, bd_some, bz_if]
theorem per_of {n : Nat} (hn : n < 2 ^ 31) (h0 : 0 < n) {p : Int32} (h : 0 ≤ p ∧ p ≤ nI (n - 1)) : ∃ j, j < n ∧ p = nI j := by
  rw [l_0] at h
  obtain ⟨j, h1, h2, h3⟩ := rg_of (by omega) (by omega) h
  exact ⟨j, by omega, h3⟩
theorem per_nI {n j : Nat} (hn : n < 2 ^ 31) (h : j < n) : 0 ≤ nI j ∧ nI j ≤ nI (n - 1) := ⟨nI_pos' (by omega), nI_le (by omega) (by omega)⟩
theorem nI_nei {a b : Nat} (h : a ≠ b) (ha : a < 2 ^ 31) (hb : b < 2 ^ 31) : ¬ nI a = nI b := by rw [nI_eq ha hb]; exact h
theorem one_ne : ((1 : Int32) = 0) = False := by decide
