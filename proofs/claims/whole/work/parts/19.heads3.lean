section Heads3
variable {L bits : Nat → Int32} {n c h N : Nat}
theorem TT_top (L : Nat → Int32) (h n c p s : Nat) : TT L h n c p s ≤ 1000 := tb_top _ _ _ _ _ _
theorem firstLeast_n (n1 : 1 ≤ n) (hn : n ≤ 8) (hc : c ≤ 10) (hN : 20 < N) {F : Nat → Int32} (hF : ∀ p, p < n → ∀ s, s < c → F (10 * p + s) = nI (TT L h n c p s)) (h0 : mn (TT L h n c 0) c < 1000) : f_X1_firstLeast N F (nI c) = some (nI (chs (TT L h n c) h.testBit c 0)) := by
  obtain ⟨c0, -, c2, -⟩ := chs_ok (L := L) (h := h) n1 h0 0 (by omega)
  obtain ⟨c3, c4⟩ := c2 rfl
  unfold f_X1_firstLeast
  simp only [lc]
  refine lpI (fun f i (z : Int32) => f_X1_firstLeast_L4 F (nI c) (fun z => some z) f z (nI i)) c (fun i z => ∃ b, b < i ∧ b < c ∧ z = nI b ∧ (∀ t, t < i → TT L h n c 0 b ≤ TT L h n c 0 t) ∧ ∀ t, t < b → TT L h n c 0 b < TT L h n c 0 t) (fun z => z = some (nI (chs (TT L h n c) h.testBit c 0))) ?_ ?_ N 1 0 (by omega) (by omega) ⟨0, by omega, by omega, rfl, fun t ht => by rw [show t = 0 by omega]; exact Nat.le_refl _, fun t ht => by omega⟩
  · rintro f i _ hi ⟨b, b1, b2, rfl, b3, b4⟩ ih
    try dsimp only
    have t1 := TT_top L h n c 0 i
    have t2 := TT_top L h n c 0 b
    rw [f_X1_firstLeast_L4, if_neg (nI_ge hi (by omega)), ld_n (i := i) (by omega) (by omega), ld_n (i := b) (by omega) (by omega)]
    have f1 := hF 0 (by omega) i hi
    have f2 := hF 0 (by omega) b b2
    rw [show 10 * 0 + i = i by omega] at f1
    rw [show 10 * 0 + b = b by omega] at f2
    rw [f1, f2]
    simp only [bd_some, lc, nI_1, nI_leI (show TT L h n c 0 b < 2 ^ 31 by omega) (show TT L h n c 0 i < 2 ^ 31 by omega)]
    split
    · rename_i e
      refine ih _ ⟨b, by omega, b2, rfl, fun t ht => ?_, b4⟩
      by_cases et : t = i
      · subst et; exact e
      · exact b3 t (by omega)
    · rename_i e
      refine ih _ ⟨i, by omega, hi, rfl, fun t ht => ?_, fun t ht => ?_⟩
      · by_cases et : t = i
        · subst et; exact Nat.le_refl _
        · have := b3 t (by omega); omega
      · have := b3 t ht; omega
  · rintro f _ ⟨b, b1, b2, rfl, b3, b4⟩
    try dsimp only
    rw [f_X1_firstLeast_L4, if_pos (Int32.le_refl _)]
    congr 2
    have m1 := mn_le (f := TT L h n c 0) b2
    have m2 := b3 (chs (TT L h n c) h.testBit c 0) c0
    rcases Nat.lt_trichotomy b (chs (TT L h n c) h.testBit c 0) with l | l | l
    · exact absurd (by omega) (c4 b l)
    · exact l
    · have := b4 _ l; omega
theorem firstBehind_n (n1 : 1 ≤ n) (hn : n ≤ 8) (hc : c ≤ 10) (hh : h < 2 ^ 31) (hN : 20 < N) {F : Nat → Int32} (hF : ∀ p, p < n → ∀ s, s < c → F (10 * p + s) = nI (TT L h n c p s)) (h0 : mn (TT L h n c 0) c < 1000) {p : Nat} (hp : p + 1 < n) : f_X1_firstBehind N F (nI c) (nI h) (nI (p + 1)) (nI (chs (TT L h n c) h.testBit c p)) = some (nI (chs (TT L h n c) h.testBit c (p + 1))) := by
  obtain ⟨c0, c1, -, -⟩ := chs_ok (L := L) (h := h) n1 h0 p (by omega)
  obtain ⟨d0, d1, -, d3⟩ := chs_ok (L := L) (h := h) n1 h0 (p + 1) hp
  obtain ⟨d4, d5, d6⟩ := d3 p rfl
  unfold f_X1_firstBehind
  rw [show nI (p + 1) - (1 : Int32) = nI p by rw [l_1, pk_sub (by omega)]; rfl, hold_n hh (by omega), bd_some]
  by_cases eh : h.testBit p = true
  · simp only [eh, ↓reduceIte, one_ne]
    rw [d5 eh]
  · have eh' : h.testBit p = false := by simpa using eh
    simp only [eh', Bool.false_eq_true, ↓reduceIte, lc]
    rw [show (nI p * (10 : Int32)) + nI (chs (TT L h n c) h.testBit c p) = nI (10 * p + chs (TT L h n c) h.testBit c p) by rw [l_10, pk_mul, nI_add, Nat.mul_comm], ld_n (by omega) (by omega), bd_some, hF p (by omega) _ c0]
    have step : ∀ f i, i < c → f_X1_firstBehind_L30 F (nI c) (nI (p + 1)) (nI (chs (TT L h n c) h.testBit c p)) (nI (TT L h n c p (chs (TT L h n c) h.testBit c p))) (some (nI (chs (TT L h n c) h.testBit c p))) (f + 1) (nI i) = if TT L h n c (p + 1) i + (if i = chs (TT L h n c) h.testBit c p then 0 else 1) = TT L h n c p (chs (TT L h n c) h.testBit c p) then some (nI i) else f_X1_firstBehind_L30 F (nI c) (nI (p + 1)) (nI (chs (TT L h n c) h.testBit c p)) (nI (TT L h n c p (chs (TT L h n c) h.testBit c p))) (some (nI (chs (TT L h n c) h.testBit c p))) f (nI (i + 1)) := by
      intro f i hi
      have t1 := TT_top L h n c (p + 1) i
      have t2 := TT_top L h n c p (chs (TT L h n c) h.testBit c p)
      rw [f_X1_firstBehind_L30, if_neg (nI_ge hi (by omega)), show (nI (p + 1) * (10 : Int32)) + nI i = nI (10 * (p + 1) + i) by rw [l_10, pk_mul, nI_add, Nat.mul_comm], ld_n (by omega) (by omega), hF (p + 1) hp i hi]
      simp only [bd_some, lc, nI_1, nI_eq (show i < 2 ^ 31 by omega) (show chs (TT L h n c) h.testBit c p < 2 ^ 31 by omega)]
      by_cases e : i = chs (TT L h n c) h.testBit c p
      · simp only [e, ↓reduceIte, Nat.add_zero]
        rw [e] at t1
        simp only [show (nI (TT L h n c (p + 1) (chs (TT L h n c) h.testBit c p)) + (0 : Int32)) = nI (TT L h n c (p + 1) (chs (TT L h n c) h.testBit c p)) from Int32.add_zero _, nI_eq (show TT L h n c (p + 1) (chs (TT L h n c) h.testBit c p) < 2 ^ 31 by omega) (show TT L h n c p (chs (TT L h n c) h.testBit c p) < 2 ^ 31 by omega)]
      · simp only [e, ↓reduceIte, nI_eq (show TT L h n c (p + 1) i + 1 < 2 ^ 31 by omega) (show TT L h n c p (chs (TT L h n c) h.testBit c p) < 2 ^ 31 by omega)]
    refine lpI (fun f i (_ : Unit) => f_X1_firstBehind_L30 F (nI c) (nI (p + 1)) (nI (chs (TT L h n c) h.testBit c p)) (nI (TT L h n c p (chs (TT L h n c) h.testBit c p))) (some (nI (chs (TT L h n c) h.testBit c p))) f (nI i)) (chs (TT L h n c) h.testBit c (p + 1)) (fun _ _ => True) (fun z => z = some (nI (chs (TT L h n c) h.testBit c (p + 1)))) ?_ ?_ N 0 () (by omega) (by omega) trivial
    · intro f i _ hi _ ih
      try dsimp only
      rw [step f i (by omega), if_neg (d6 eh' i hi)]
      exact ih () trivial
    · intro f _ _
      try dsimp only
      rw [step f _ d0, if_pos d4]
theorem choose_n (n1 : 1 ≤ n) (hn : n ≤ 8) (hc : c ≤ 10) (hh : h < 2 ^ 31) (hN : 20 < N) {F : Nat → Int32} (hF : ∀ p, p < n → ∀ s, s < c → F (10 * p + s) = nI (TT L h n c p s)) (h0 : mn (TT L h n c 0) c < 1000) (G : Nat → Int32) : ∃ G', f_X1_choose N F G (nI c) (nI h) (nI n) = some G' ∧ ∀ p, p < n → G' p = nI (chs (TT L h n c) h.testBit c p) := by
  unfold f_X1_choose
  rw [firstLeast_n n1 hn hc hN hF h0, bd_some, l_0, sti_n (by omega) (by omega), bd_some]
  simp only [lc]
  refine lpI (fun f i (z : Nat → Int32) => f_X1_choose_L16 F (nI c) (nI h) (nI n) N (fun z => some z) f (nI i) z) n (fun i z => 1 ≤ i ∧ ∀ p, p < i → z p = nI (chs (TT L h n c) h.testBit c p)) (fun z => ∃ G', z = some G' ∧ ∀ p, p < n → G' p = nI (chs (TT L h n c) h.testBit c p)) ?_ ?_ N 1 (upd G 0 (nI (chs (TT L h n c) h.testBit c 0))) (by omega) (by omega) ⟨by omega, fun p hp => by rw [show p = 0 by omega, upd_s]⟩
  · rintro f i z hi ⟨hI0, hI⟩ ih
    try dsimp only
    obtain ⟨j, rfl⟩ : ∃ j, i = j + 1 := ⟨i - 1, by omega⟩
    rw [f_X1_choose_L16, if_neg (nI_ge hi (by omega)), show nI (j + 1) - (1 : Int32) = nI j by rw [l_1, pk_sub (by omega)]; rfl, ld_n (by omega) (by omega), bd_some, hI j (by omega), firstBehind_n n1 hn hc hh hN hF h0 hi, bd_some, sti_n (by omega) (by omega), bd_some, nI_1]
    refine ih _ ⟨by omega, fun p hp => ?_⟩
    by_cases e : p = j + 1
    · subst e; rw [upd_s]
    · rw [upd_n e]; exact hI p (by omega)
  · rintro f z ⟨-, hI⟩
    try dsimp only
    rw [f_X1_choose_L16, if_pos (Int32.le_refl _)]
    exact ⟨z, rfl, hI⟩
/-- whether a head goes on: at the first person -/
theorem goesOn_0 (hn : n ≤ 8) (hc : c ≤ 10) {F : Nat → Int32} (n1 : 1 ≤ n) (hF : ∀ p, p < n → ∀ s, s < c → F (10 * p + s) = nI (TT L h n c p s)) {s v : Nat} (hs : s < c) (hv : v < 2 ^ 31) (H : Int32) : f_X9_goesOn H F (nI 0) (nI s) (-6) (nI v) = some (if TT L h n c 0 s = v then 1 else 0) := by
  unfold f_X9_goesOn
  have t1 := TT_top L h n c 0 s
  have f1 := hF 0 (by omega) s hs
  simp only [lc, m6_lt0, ↓reduceIte, one_ne]
  rw [show ((10 : Int32) * nI 0) + nI s = nI (10 * 0 + s) by rw [l_10, pk_mul, nI_add], ld_n (by omega) (by omega), f1, bd_some, show nI (TT L h n c 0 s) + (0 : Int32) = nI (TT L h n c 0 s) from Int32.add_zero _]
  simp only [nI_eq (show TT L h n c 0 s < 2 ^ 31 by omega) hv]
  split <;> rfl
theorem goesOn_s (hn : n ≤ 8) (hc : c ≤ 10) (hh : h < 2 ^ 31) {F : Nat → Int32} (hF : ∀ p, p < n → ∀ s, s < c → F (10 * p + s) = nI (TT L h n c p s)) {p s l v : Nat} (hp : p + 1 < n) (hs : s < c) (hl : l < c) (hv : v < 2 ^ 31) : f_X9_goesOn (nI h) F (nI (p + 1)) (nI s) (nI l) (nI v) = some (if (s = l ∨ h.testBit p = false) ∧ TT L h n c (p + 1) s + (if s = l then 0 else 1) = v then 1 else 0) := by
  unfold f_X9_goesOn
  have t1 := TT_top L h n c (p + 1) s
  have f1 := hF (p + 1) hp s hs
  rw [show nI (p + 1) - (1 : Int32) = nI p by rw [l_1, pk_sub (by omega)]; rfl, show ((10 : Int32) * nI (p + 1)) + nI s = nI (10 * (p + 1) + s) by rw [l_10, pk_mul, nI_add], ld_n (by omega) (by omega), f1]
  simp only [lc, bd_some, nI_pos (show l < 2 ^ 31 by omega), ↓reduceIte, one_ne, nI_eq (show s < 2 ^ 31 by omega) (show l < 2 ^ 31 by omega), bit_get0 hh (show p < 31 by omega)]
  by_cases e : s = l
  · simp only [e, ↓reduceIte, true_or, true_and, Nat.add_zero]
    rw [e] at t1
    simp only [show (nI (TT L h n c (p + 1) l) + (0 : Int32)) = nI (TT L h n c (p + 1) l) from Int32.add_zero _, nI_eq (show TT L h n c (p + 1) l < 2 ^ 31 by omega) hv]
    split <;> rfl
  · simp only [e, ↓reduceIte, false_or]
    by_cases e2 : h.testBit p = false
    · simp only [e2, ↓reduceIte, true_and, nI_1, nI_eq (show TT L h n c (p + 1) s + 1 < 2 ^ 31 by omega) hv]
      split <;> rfl
    · have e2' : h.testBit p = true := by simpa using e2
      simp [e2']
/-- the reference's heads up to a person -/
theorem mHeads_n (n1 : 1 ≤ n) (hn : n ≤ 8) (hc : c ≤ 10) (hh : h < 2 ^ 31) (hN : 20 < N) {F : Nat → Int32} (hF : ∀ p, p < n → ∀ s, s < c → F (10 * p + s) = nI (TT L h n c p s)) (h0 : mn (TT L h n c 0) c < 1000) {i : Nat} (hi : i < n) (K : Int32 → Option (Int32 × (Nat → Int32))) : f_X9_heads_L43 (nI h) (nI i) F N K N (nI (mn (TT L h n c 0) c)) (-6) 0 = K (nI (chs (TT L h n c) h.testBit c i)) := by
  have search0 : ∀ K2 : Int32 → Option (Int32 × (Nat → Int32)), f_X9_heads_L52 (nI h) F (nI (mn (TT L h n c 0) c)) (-6) (nI 0) K2 N 0 = K2 (nI (chs (TT L h n c) h.testBit c 0)) := by
    intro K2
    obtain ⟨c0, -, c2, -⟩ := chs_ok (L := L) (h := h) n1 h0 0 (by omega)
    obtain ⟨c3, c4⟩ := c2 rfl
    refine lpI (fun f i (_ : Unit) => f_X9_heads_L52 (nI h) F (nI (mn (TT L h n c 0) c)) (-6) (nI 0) K2 f (nI i)) (chs (TT L h n c) h.testBit c 0) (fun _ _ => True) (fun z => z = K2 (nI (chs (TT L h n c) h.testBit c 0))) ?_ ?_ N 0 () (by omega) (by omega) trivial
    · intro f j _ hj _ ih
      try dsimp only
      rw [f_X9_heads_L52, goesOn_0 hn hc n1 hF (by omega) (by omega), bd_some, if_neg (c4 j hj), if_pos rfl, nI_1]
      exact ih () trivial
    · intro f _ _
      try dsimp only
      rw [f_X9_heads_L52, goesOn_0 hn hc n1 hF c0 (by omega), bd_some, if_pos c3, if_neg (by decide)]
  have searchS : ∀ p, p + 1 < n → ∀ K2 : Int32 → Option (Int32 × (Nat → Int32)), f_X9_heads_L52 (nI h) F (nI (TT L h n c p (chs (TT L h n c) h.testBit c p))) (nI (chs (TT L h n c) h.testBit c p)) (nI (p + 1)) K2 N 0 = K2 (nI (chs (TT L h n c) h.testBit c (p + 1))) := by
    intro p hp K2
    obtain ⟨c0, c1, -, -⟩ := chs_ok (L := L) (h := h) n1 h0 p (by omega)
    obtain ⟨d0, d1, -, d3⟩ := chs_ok (L := L) (h := h) n1 h0 (p + 1) hp
    obtain ⟨d4, d5, d6⟩ := d3 p rfl
    refine lpI (fun f i (_ : Unit) => f_X9_heads_L52 (nI h) F (nI (TT L h n c p (chs (TT L h n c) h.testBit c p))) (nI (chs (TT L h n c) h.testBit c p)) (nI (p + 1)) K2 f (nI i)) (chs (TT L h n c) h.testBit c (p + 1)) (fun _ _ => True) (fun z => z = K2 (nI (chs (TT L h n c) h.testBit c (p + 1)))) ?_ ?_ N 0 () (by omega) (by omega) trivial
    · intro f j _ hj _ ih
      try dsimp only
      rw [f_X9_heads_L52, goesOn_s hn hc hh hF hp (by omega) c0 (by omega), bd_some, if_neg (c := (j = chs (TT L h n c) h.testBit c p ∨ h.testBit p = false) ∧ _), if_pos rfl, nI_1]
      · exact ih () trivial
      · rintro ⟨a1, a2⟩
        by_cases eh : h.testBit p = true
        · rcases a1 with a1 | a1
          · have := d5 eh; omega
          · rw [eh] at a1; cases a1
        · exact d6 (by simpa using eh) j hj a2
    · intro f _ _
      try dsimp only
      have d7 : chs (TT L h n c) h.testBit c (p + 1) = chs (TT L h n c) h.testBit c p ∨ h.testBit p = false := by
        by_cases eh : h.testBit p = true
        · exact Or.inl (d5 eh)
        · exact Or.inr (by simpa using eh)
      rw [f_X9_heads_L52, goesOn_s hn hc hh hF hp d0 c0 (by omega), bd_some]
      simp only [if_pos (And.intro d7 d4), one_ne, ↓reduceIte]
  have key : ∀ f, i + 1 < f + 1 → f_X9_heads_L43 (nI h) (nI i) F N K (f + 1) (nI (mn (TT L h n c 0) c)) (-6) (nI 0) = f_X9_heads_L43 (nI h) (nI i) F N K f (nI (TT L h n c 0 (chs (TT L h n c) h.testBit c 0))) (nI (chs (TT L h n c) h.testBit c 0)) (nI 1) := by
    intro f hf
    obtain ⟨c0, -, c2, -⟩ := chs_ok (L := L) (h := h) n1 h0 0 (by omega)
    obtain ⟨c3, c4⟩ := c2 rfl
    rw [f_X9_heads_L43, if_neg (nI_nlt (by omega) (by omega))]
    simp only [lc]
    rw [search0, if_pos m6_lt0, c3, Int32.sub_zero, nI_1]
  have rest : ∀ f p, 1 ≤ p → p ≤ i + 1 → i + 1 < p + f → f_X9_heads_L43 (nI h) (nI i) F N K f (nI (TT L h n c (p - 1) (chs (TT L h n c) h.testBit c (p - 1)))) (nI (chs (TT L h n c) h.testBit c (p - 1))) (nI p) = K (nI (chs (TT L h n c) h.testBit c i)) := by
    intro f
    induction f with
    | zero => intro p h1 h2 h3; omega
    | succ f ih =>
      intro p h1 h2 h3
      rw [f_X9_heads_L43]
      by_cases e : p = i + 1
      · subst e
        rw [if_pos (nI_lt (by omega) (by omega)), show i + 1 - 1 = i by omega]
      · rw [if_neg (nI_nlt (by omega) (by omega))]
        obtain ⟨q, rfl⟩ : ∃ q, p = q + 1 := ⟨p - 1, by omega⟩
        simp only [lc, show q + 1 - 1 = q by omega]
        rw [searchS q (by omega)]
        obtain ⟨c0, c1, -, -⟩ := chs_ok (L := L) (h := h) n1 h0 q (by omega)
        obtain ⟨d0, d1, -, d3⟩ := chs_ok (L := L) (h := h) n1 h0 (q + 1) (by omega)
        obtain ⟨d4, d5, d6⟩ := d3 q rfl
        rw [if_neg (nI_pos (by omega)), nI_1]
        have := ih (q + 1 + 1) (by omega) (by omega) (by omega)
        rw [show q + 1 + 1 - 1 = q + 1 by omega] at this
        rw [← this]
        by_cases e2 : chs (TT L h n c) h.testBit c (q + 1) = chs (TT L h n c) h.testBit c q
        · rw [if_pos e2] at d4
          rw [if_pos (by rw [e2]), Int32.sub_zero, ← d4, Nat.add_zero]
        · rw [if_neg e2] at d4
          rw [if_neg (nI_nei e2 (by omega) (by omega)), ← d4, l_1, pk_sub (by omega), show TT L h n c (q + 1) (chs (TT L h n c) h.testBit c (q + 1)) + 1 - 1 = TT L h n c (q + 1) (chs (TT L h n c) h.testBit c (q + 1)) by omega]
  obtain ⟨M, rfl⟩ : ∃ M, N = M + 1 := ⟨N - 1, by omega⟩
  rw [l_0, key M (by omega)]
  exact rest M 1 (by omega) (by omega) (by omega)
theorem pu_heads {n c : Nat} {people bride count hands mpeople mshots mbride mhands : Int32} {looks bits mlooks : Nat → Int32} (hsh : R_sh n c people bride count hands looks bits mpeople mshots mlooks mbride mhands) (F G M : Nat → Int32) (p1 : Int32) :
    ∃ N r F' G' M', f_X8_heads N people count hands bits F G p1 = some (r, F', G') ∧ f_X9_heads N mpeople mshots mlooks mhands M p1 = some (r, M') := by
  obtain ⟨⟨n1, n2, n3⟩, ⟨rfl, rfl, rfl, rfl⟩, hl, hb, -, rfl, h, hh, rfl⟩ := hsh
  have p7 : 2 ^ (n - 1) ≤ 2 ^ 7 := Nat.pow_le_pow_right (n := 2) (by omega) (by omega)
  have hh' : h < 2 ^ 31 := by omega
  refine ⟨100, ?_⟩
  unfold f_X8_heads f_X9_heads f_X1_solve
  simp only [lc]
  obtain ⟨F', s1, s2⟩ := solve_n (L := mlooks) (N := 100) n1 n2 n3 hh' (by omega) hb F (fun z6 a => if z6 < (1000 : Int32) then bd (f_X1_choose 100 a G (nI c) (nI h) (nI n)) fun b => some (z6, a, b) else some ((-6 : Int32), a, G))
  rw [s1]
  obtain ⟨M', m1, m2⟩ := mFind_n (L := mlooks) (N := 100) n1 n2 n3 hh' (by omega) M
  rw [m1, bd_some, mFew_n (T := TT mlooks h n c 0) n3 (by omega) (fun s => TT_top _ _ _ _ _ _) (fun s hs => by have := m2 0 (by omega) s hs; rw [show 10 * 0 + s = s by omega] at this; exact this), bd_some]
  have e0 : mn (tb (opn mlooks) h.testBit n c (n - 1)) c = mn (TT mlooks h n c 0) c := rfl
  have tp := mn_top (TT mlooks h n c 0) c
  rw [e0]
  by_cases e : mn (TT mlooks h n c 0) c < 1000
  · rw [if_pos (show nI (mn (TT mlooks h n c 0) c) < 1000 from nI_lt (b := 1000) e (by omega)), if_pos (show nI (mn (TT mlooks h n c 0) c) < 1000 from nI_lt (b := 1000) e (by omega))]
    obtain ⟨G', g1, g2⟩ := choose_n (L := mlooks) (N := 100) n1 n2 n3 hh' (by omega) s2 e G
    rw [g1]
    simp only [bd_some]
    by_cases em : p1 = -1
    · rw [if_pos em, if_pos em, if_neg (nI_m6 (by omega)), if_pos em]
      exact ⟨_, _, _, _, rfl, rfl⟩
    · rw [if_neg em, if_neg em, if_neg (nI_m6 (by omega)), if_neg em, has_eq (by omega) (by omega), isPerson_eq (by omega) (by omega)]
      simp only [bd_some]
      by_cases ep : 0 ≤ p1 ∧ p1 ≤ nI (n - 1)
      · simp only [if_pos ep, one_ne, ↓reduceIte]
        obtain ⟨j, hj, rfl⟩ := per_of (by omega) (by omega) ep
        unfold f_X1_shotOf
        rw [ld_n (by omega) (by omega), g2 j hj, mHeads_n n1 n2 n3 hh' (by omega) m2 e hj]
        exact ⟨_, _, _, _, rfl, rfl⟩
      · simp only [if_neg ep, ↓reduceIte]
        exact ⟨_, _, _, _, rfl, rfl⟩
  · have e1 : mn (TT mlooks h n c 0) c = 1000 := by omega
    rw [e1, if_neg (show ¬ nI 1000 < 1000 by decide), if_neg (show ¬ nI 1000 < 1000 by decide)]
    simp only [bd_some, ↓reduceIte]
    by_cases em : p1 = -1
    · rw [if_pos em]
      exact ⟨_, _, _, _, rfl, rfl⟩
    · rw [if_neg em, has_eq (by omega) (by omega)]
      simp only [bd_some]
      by_cases ep : 0 ≤ p1 ∧ p1 ≤ nI (n - 1)
      · simp only [if_pos ep, one_ne, ↓reduceIte]
        exact ⟨_, _, _, _, rfl, rfl⟩
      · simp only [if_neg ep, ↓reduceIte]
        exact ⟨_, _, _, _, rfl, rfl⟩
end Heads3
