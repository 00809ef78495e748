theorem cnt_full {p : Nat → Bool} {m : Nat} (h : cnt p m = m) : ∀ k, k < m → p k = true := by
  induction m with
  | zero => intro k hk; omega
  | succ m ih =>
    rw [cnt] at h
    have := cnt_le p m
    intro k hk
    by_cases e : p m = true
    · rw [if_pos e] at h
      by_cases ek : k = m
      · subst ek; exact e
      · exact ih (by omega) k (by omega)
    · rw [if_neg e] at h
      omega
theorem cnt_all {p : Nat → Bool} {m : Nat} (h : ∀ k, k < m → p k = true) : cnt p m = m := by
  induction m with
  | zero => rfl
  | succ m ih => rw [cnt, ih (fun k hk => h k (by omega)), if_pos (h m (by omega))]
/-- a set of n bits has n ones only if it is all of them -/
theorem ones_all {b n : Nat} (hb : b < 2 ^ n) (hn : n ≤ 10) : cnt b.testBit 10 ≤ n ∧ (cnt b.testBit 10 = n ↔ b = 2 ^ n - 1) := by
  have e : cnt b.testBit 10 = cnt b.testBit n := cnt_more hn (fun k h1 h2 => Nat.testBit_lt_two_pow (Nat.lt_of_lt_of_le hb (Nat.pow_le_pow_right (by omega) h1)))
  rw [e]
  refine ⟨cnt_le _ _, fun h => ?_, fun h => ?_⟩
  · apply Nat.eq_of_testBit_eq
    intro k
    rw [Nat.testBit_two_pow_sub_one]
    by_cases hk : k < n
    · rw [cnt_full h k hk]; simp [hk]
    · rw [Nat.testBit_lt_two_pow (Nat.lt_of_lt_of_le hb (Nat.pow_le_pow_right (by omega) (by omega)))]; simp [hk]
  · subst h
    exact cnt_all (fun k hk => by rw [Nat.testBit_two_pow_sub_one]; simp [hk])
/-- the first of the best, it is one -/
def isTop (g : Nat → Nat) (a b β : Nat) : Prop := a ≤ β ∧ β ≤ b ∧ (∀ t, a ≤ t → t ≤ b → g t ≤ g β) ∧ ∀ t, a ≤ t → t < β → g t < g β
theorem isTop_one {g : Nat → Nat} {a b β γ : Nat} (h : isTop g a b β) (k : isTop g a b γ) : β = γ := by
  obtain ⟨h1, h2, h3, h4⟩ := h
  obtain ⟨k1, k2, k3, k4⟩ := k
  rcases Nat.lt_trichotomy β γ with l | l | l
  · have := k4 β h1 l; have := h3 γ k1 k2; omega
  · exact l
  · have := h4 γ k1 l; have := k3 β h1 h2; omega
theorem pu_fire {n c : Nat} {people bride count hands mpeople mshots mbride mhands : Int32} {looks bits mlooks : Nat → Int32} (hsh : R_sh n c people bride count hands looks bits mpeople mshots mlooks mbride mhands) {flash mflash : Int32} {S mP mS mF : Nat → Int32} (hbl : R_bl flash S mP mS mF mflash) (p1 p2 p3 : Int32) :
    ∃ N r, f_X8_fire N people flash S p1 p2 p3 = some r ∧ f_X9_fire N mpeople mP mS mF mflash p1 p2 p3 = some r := by
  obtain ⟨⟨n1, n2, n3⟩, ⟨rfl, rfl, rfl, rfl⟩, -⟩ := hsh
  obtain ⟨rfl, -⟩ := id hbl
  have n256 : 2 ^ n ≤ 256 := Nat.pow_le_pow_right (n := 2) (by omega) n2
  refine ⟨2000, ?_⟩
  obtain ⟨ob, hob⟩ : ∃ ob : Nat → Nat, ∀ t, t ≤ 2000 → ob t < 2 ^ n ∧ f_X0_openAt 2000 mflash S (nI t) (nI n) = some (nI (ob t)) ∧ f_X9_openAt 2000 (nI n) mP mS mF mflash (nI t) = some (nI (ob t)) := by
    have : ∀ t, ∃ b, t ≤ 2000 → b < 2 ^ n ∧ f_X0_openAt 2000 mflash S (nI t) (nI n) = some (nI b) ∧ f_X9_openAt 2000 (nI n) mP mS mF mflash (nI t) = some (nI b) := by
      intro t
      by_cases e : t ≤ 2000
      · obtain ⟨b, h⟩ := openAt_n (N := 2000) (t := t) n2 (by omega) e hbl
        exact ⟨b, fun _ => h⟩
      · exact ⟨0, fun h => absurd h e⟩
    obtain ⟨f, hf⟩ := Classical.skolem.mp this
    exact ⟨f, hf⟩
  unfold f_X8_fire f_X9_fire
  rw [within_eq, in_eq2 (a := 0) (b := 999) (by decide) (by decide)]
  simp only [bd_some, lc]
  by_cases ea : (0 : Int32) ≤ p1 ∧ p1 ≤ 999
  · simp only [if_pos ea, one_ne, ↓reduceIte]
    rw [within_eq, in_eq2 (a := p1) (b := 999) rfl (by decide)]
    simp only [bd_some]
    by_cases eb : p1 ≤ p2 ∧ p2 ≤ (999 : Int32)
    · simp only [if_pos eb, one_ne, ↓reduceIte]
      rw [within_eq, in_eq2 (a := 0) (b := 2) (by decide) (by decide)]
      simp only [bd_some]
      by_cases ec : (0 : Int32) ≤ p3 ∧ p3 ≤ 2
      · simp only [if_pos ec, one_ne, ↓reduceIte]
        obtain ⟨a, a1, a2, rfl⟩ := rg_of (a := 0) (b := 999) (by omega) (by omega) ea
        obtain ⟨b, b1, b2, rfl⟩ := rg_of (a := a) (b := 999) (by omega) (by omega) eb
        -- the reference's three numbers
        have model : ∀ K : Int32 → Int32 → Int32 → Option Int32, ∃ β A, isTop (fun t => cnt (ob t).testBit 10) a b β ∧ A = cnt (fun t => decide (a ≤ t) && decide (ob t = 2 ^ n - 1)) (b + 1) ∧ f_X9_fire_L53 (nI n) mP mS mF mflash (nI b) 2000 K 2000 (-6) (-1) 0 (nI a) = K (nI β) (nI (cnt (ob β).testBit 10)) (nI A) := by
          intro K
          refine lpI (fun f i (z : Int32 × Int32 × Int32) => f_X9_fire_L53 (nI n) mP mS mF mflash (nI b) 2000 K f z.1 z.2.1 z.2.2 (nI i)) (b + 1) (fun i z => z.2.2 = nI (cnt (fun t => decide (a ≤ t) && decide (ob t = 2 ^ n - 1)) i) ∧ ((i = a ∧ z.1 = -6 ∧ z.2.1 = -1) ∨ (a < i ∧ ∃ β, z.1 = nI β ∧ z.2.1 = nI (cnt (ob β).testBit 10) ∧ isTop (fun t => cnt (ob t).testBit 10) a (i - 1) β)))
            (fun z => ∃ β A, isTop (fun t => cnt (ob t).testBit 10) a b β ∧ A = cnt (fun t => decide (a ≤ t) && decide (ob t = 2 ^ n - 1)) (b + 1) ∧ z = K (nI β) (nI (cnt (ob β).testBit 10)) (nI A)) ?_ ?_ 2000 a (-6, -1, 0) (by omega) (by omega) ⟨by rw [cnt_zero (fun j hj => by simp [show ¬ a ≤ j by omega])]; rfl, Or.inl ⟨rfl, rfl, rfl⟩⟩
          · rintro f i ⟨B, M, A⟩ hi ⟨hA, hI⟩ ih
            dsimp only at hA hI ih ⊢
            subst hA
            have hai : a ≤ i := by rcases hI with ⟨h, -⟩ | ⟨h, -⟩ <;> omega
            obtain ⟨o1, o2, o3⟩ := hob i (by omega)
            obtain ⟨q1, q2⟩ := ones_all o1 (by omega)
            rw [f_X9_fire_L53, if_neg (nI_nlt (by omega) (by omega)), o3, bd_some, ones_n (by omega) (by omega), bd_some]
            simp only [lc, nI_1, nI_eq (show cnt (ob i).testBit 10 < 2 ^ 31 by omega) (show n < 2 ^ 31 by omega), q2]
            have hA' : ∀ (X Y : Int32), (if ob i = 2 ^ n - 1 then f_X9_fire_L53 (nI n) mP mS mF mflash (nI b) 2000 K f X Y (nI (cnt (fun t => decide (a ≤ t) && decide (ob t = 2 ^ n - 1)) i + 1)) (nI (i + 1)) else f_X9_fire_L53 (nI n) mP mS mF mflash (nI b) 2000 K f X Y (nI (cnt (fun t => decide (a ≤ t) && decide (ob t = 2 ^ n - 1)) i) + 0) (nI (i + 1))) = f_X9_fire_L53 (nI n) mP mS mF mflash (nI b) 2000 K f X Y (nI (cnt (fun t => decide (a ≤ t) && decide (ob t = 2 ^ n - 1)) (i + 1))) (nI (i + 1)) := by
              intro X Y
              by_cases e : ob i = 2 ^ n - 1
              · simp only [if_pos e, cnt, hai, e, decide_true, Bool.and_true, ↓reduceIte]
              · simp only [if_neg e, cnt, hai, e, decide_true, decide_false, Bool.and_false, Bool.false_eq_true, ↓reduceIte, Nat.add_zero]
                rw [show (0 : Int32) = nI 0 from rfl, nI_add]
                rfl
            rcases hI with ⟨rfl, rfl, rfl⟩ | ⟨hl, β, rfl, rfl, t1, t2, t3, t4⟩
            · rw [if_neg (show ¬ nI (cnt (ob i).testBit 10) ≤ -1 by rw [fa_le, nI_toInt (by omega), show ((-1 : Int32)).toInt = -1 by decide]; omega)]
              rw [if_neg (show ¬ nI (cnt (ob i).testBit 10) ≤ -1 by rw [fa_le, nI_toInt (by omega), show ((-1 : Int32)).toInt = -1 by decide]; omega), hA']
              exact ih (nI i, nI _, nI _) ⟨rfl, Or.inr ⟨by omega, i, rfl, rfl, by omega, by omega, fun t h1 h2 => by rw [show t = i by omega]; exact Nat.le_refl _, fun t h1 h2 => by omega⟩⟩
            · obtain ⟨w1, -, -⟩ := hob β (by omega)
              have w2 := (ones_all w1 (by omega)).1
              simp only [nI_leI (show cnt (ob i).testBit 10 < 2 ^ 31 by omega) (show cnt (ob β).testBit 10 < 2 ^ 31 by omega)]
              by_cases e2 : cnt (ob i).testBit 10 ≤ cnt (ob β).testBit 10
              · rw [if_pos e2, if_pos e2, hA']
                exact ih (nI β, nI _, nI _) ⟨rfl, Or.inr ⟨by omega, β, rfl, rfl, t1, by omega, fun t h1 h2 => by
                  by_cases et : t = i
                  · subst et; exact e2
                  · exact t3 t h1 (by omega), t4⟩⟩
              · rw [if_neg e2, if_neg e2, hA']
                exact ih (nI i, nI _, nI _) ⟨rfl, Or.inr ⟨by omega, i, rfl, rfl, by omega, by omega, fun t h1 h2 => by
                  by_cases et : t = i
                  · subst et; exact Nat.le_refl _
                  · have := t3 t h1 (by omega); simp only at this ⊢; omega, fun t h1 h2 => by have := t3 t h1 (by omega); simp only at this ⊢; omega⟩⟩
          · rintro f ⟨B, M, A⟩ ⟨hA, hI⟩
            dsimp only at hA hI ⊢
            subst hA
            rcases hI with ⟨h, -⟩ | ⟨h, β, rfl, rfl, ht⟩
            · omega
            · rw [f_X9_fire_L53, if_pos (nI_lt (by omega) (by omega))]
              exact ⟨β, _, ht, rfl, rfl⟩
        -- the class's best
        have best : ∃ β, isTop (fun t => cnt (ob t).testBit 10) a b β ∧ f_X0_bestTenth 2000 mflash S (nI a) (nI b) (nI n) = some (nI β) := by
          unfold f_X0_bestTenth
          simp only [lc]
          refine lpI (fun f i (z : Int32 × Int32) => f_X0_bestTenth_L9 mflash S (nI b) (nI n) 2000 (fun z => some z) f z.1 z.2 (nI i)) (b + 1) (fun i z => ((i = a ∧ z.1 = nI a ∧ z.2 = -1) ∨ (a < i ∧ ∃ β, z.1 = nI β ∧ z.2 = nI (cnt (ob β).testBit 10) ∧ isTop (fun t => cnt (ob t).testBit 10) a (i - 1) β)))
            (fun z => ∃ β, isTop (fun t => cnt (ob t).testBit 10) a b β ∧ z = some (nI β)) ?_ ?_ 2000 a (nI a, -1) (by omega) (by omega) (Or.inl ⟨rfl, rfl, rfl⟩)
          · rintro f i ⟨B, M⟩ hi hI ih
            dsimp only at hI ih ⊢
            have hai : a ≤ i := by rcases hI with ⟨h, -⟩ | ⟨h, -⟩ <;> omega
            obtain ⟨o1, o2, o3⟩ := hob i (by omega)
            obtain ⟨q1, q2⟩ := ones_all o1 (by omega)
            rw [f_X0_bestTenth_L9, if_neg (nI_nlt (by omega) (by omega))]
            rcases hI with ⟨rfl, rfl, rfl⟩ | ⟨hl, β, rfl, rfl, t1, t2, t3, t4⟩
            · rw [if_neg (show ¬ nI n ≤ -1 by rw [fa_le, nI_toInt (by omega), show ((-1 : Int32)).toInt = -1 by decide]; omega), o2, bd_some, bc_small _ (by omega), bd_some]
              simp only [lc]
              rw [if_neg (show ¬ nI (cnt (ob i).testBit 10) ≤ -1 by rw [fa_le, nI_toInt (by omega), show ((-1 : Int32)).toInt = -1 by decide]; omega), nI_1]
              exact ih (nI i, nI _) (Or.inr ⟨by omega, i, rfl, rfl, by omega, by omega, fun t h1 h2 => by rw [show t = i by omega]; exact Nat.le_refl _, fun t h1 h2 => by omega⟩)
            · obtain ⟨w1, -, -⟩ := hob β (by omega)
              have w2 := (ones_all w1 (by omega)).1
              by_cases ef : n ≤ cnt (ob β).testBit 10
              · rw [if_pos (nI_le ef (by omega))]
                refine ⟨β, ⟨t1, by omega, fun t h1 h2 => ?_, t4⟩, rfl⟩
                obtain ⟨x1, -, -⟩ := hob t (by omega)
                have x2 := (ones_all x1 (by omega)).1
                simp only
                omega
              · rw [if_neg (nI_ge (by omega) (by omega)), o2, bd_some, bc_small _ (by omega), bd_some]
                simp only [lc, nI_1, nI_leI (show cnt (ob i).testBit 10 < 2 ^ 31 by omega) (show cnt (ob β).testBit 10 < 2 ^ 31 by omega)]
                by_cases e2 : cnt (ob i).testBit 10 ≤ cnt (ob β).testBit 10
                · rw [if_pos e2]
                  exact ih (nI β, nI _) (Or.inr ⟨by omega, β, rfl, rfl, t1, by omega, fun t h1 h2 => by
                    by_cases et : t = i
                    · subst et; exact e2
                    · exact t3 t h1 (by omega), t4⟩)
                · rw [if_neg e2]
                  exact ih (nI i, nI _) (Or.inr ⟨by omega, i, rfl, rfl, by omega, by omega, fun t h1 h2 => by
                    by_cases et : t = i
                    · subst et; exact Nat.le_refl _
                    · have := t3 t h1 (by omega); simp only at this ⊢; omega, fun t h1 h2 => by have := t3 t h1 (by omega); simp only at this ⊢; omega⟩)
          · rintro f ⟨B, M⟩ hI
            dsimp only at hI ⊢
            rcases hI with ⟨h, -⟩ | ⟨h, β, rfl, rfl, ht⟩
            · omega
            · rw [f_X0_bestTenth_L9, if_pos (nI_lt (by omega) (by omega))]
              exact ⟨β, ht, rfl⟩
        have tenths : f_X0_tenthsOfAll 2000 mflash S (nI a) (nI b) (nI n) = some (nI (cnt (fun t => decide (a ≤ t) && decide (ob t = 2 ^ n - 1)) (b + 1))) := by
          unfold f_X0_tenthsOfAll
          simp only [lc]
          refine lpI (fun f i (z : Int32) => f_X0_tenthsOfAll_L13 mflash S (nI b) (nI n) 2000 (fun z => some z) f z (nI i)) (b + 1) (fun i z => a ≤ i ∧ z = nI (cnt (fun t => decide (a ≤ t) && decide (ob t = 2 ^ n - 1)) i)) (fun z => z = some (nI (cnt (fun t => decide (a ≤ t) && decide (ob t = 2 ^ n - 1)) (b + 1)))) ?_ ?_ 2000 a 0 (by omega) (by omega) ⟨by omega, by rw [cnt_zero (fun j hj => by simp [show ¬ a ≤ j by omega])]; rfl⟩
          · rintro f i _ hi ⟨hai, rfl⟩ ih
            try dsimp only
            obtain ⟨o1, o2, o3⟩ := hob i (by omega)
            rw [f_X0_tenthsOfAll_L13, if_neg (nI_nlt (by omega) (by omega)), o2, bd_some, every_n n n2]
            simp only [lc, nI_1, nI_eq (show ob i < 2 ^ 31 by omega) (show 2 ^ n - 1 < 2 ^ 31 by omega)]
            refine Eq.trans ?_ (ih _ ⟨by omega, rfl⟩)
            by_cases e : ob i = 2 ^ n - 1
            · simp only [if_pos e, cnt, hai, e, decide_true, Bool.and_true, ↓reduceIte]
            · simp only [if_neg e, cnt, hai, e, decide_true, decide_false, Bool.and_false, Bool.false_eq_true, ↓reduceIte, Nat.add_zero]
          · rintro f _ ⟨hai, rfl⟩
            try dsimp only
            rw [f_X0_tenthsOfAll_L13, if_pos (nI_lt (by omega) (by omega))]
        obtain ⟨β, A, m1, m2, m3⟩ := model (fun z11 z12 z13 => if p3 = 0 then some z11 else if p3 = (1 : Int32) then some z12 else some z13)
        obtain ⟨γ, g1, g2⟩ := best
        have := isTop_one m1 g1
        subst this
        rw [m3, g2, tenths, m2, bd_some, bd_some]
        obtain ⟨o1, o2, o3⟩ := hob β (by have := m1.2.1; omega)
        rw [o2, bd_some, bc_small _ (by omega), bd_some]
        obtain ⟨w, -, w2, rfl⟩ := rg_of (a := 0) (b := 2) (by omega) (by omega) ec
        rcases (show w = 0 ∨ w = 1 ∨ w = 2 by omega) with rfl | rfl | rfl
        · exact ⟨_, rfl, rfl⟩
        · exact ⟨_, rfl, rfl⟩
        · exact ⟨_, rfl, rfl⟩
      · simp only [if_neg ec, ↓reduceIte]
        exact ⟨_, rfl, rfl⟩
    · simp only [if_neg eb, ↓reduceIte]
      exact ⟨_, rfl, rfl⟩
  · simp only [if_neg ea, ↓reduceIte]
    exact ⟨_, rfl, rfl⟩
