theorem be_sym (C a b : Nat) : beN C b a = beN C a b := by
  unfold beN
  rw [Bool.eq_iff_iff]
  simp only [decide_eq_true_eq]
  omega
theorem wb_0 {C r : Nat} {T H : Nat → Nat} {i a j b : Nat} : wbN C r T H i a j b = 0 ↔ hidN C r T i a j b = false ∧ ¬ (H (8 * i + j) = 1 ∧ beN C a b = true) ∧ ¬ (H (8 * i + j) = 2 ∧ ¬ beN C a b = true) := by
  unfold wbN
  by_cases e : hidN C r T i a j b = true
  · rw [if_pos e, e]; simp
  · rw [if_neg e]
    by_cases e1 : H (8 * i + j) = 1 ∧ beN C a b = true
    · rw [if_pos e1]; simp [e1]
    · rw [if_neg e1]
      by_cases e2 : H (8 * i + j) = 2 ∧ ¬ beN C a b = true
      · rw [if_pos e2]; simp [e2]
      · rw [if_neg e2]
        simp only [true_iff]
        exact ⟨by simpa using e, e1, e2⟩
section Find
variable {R C r n : Nat} {T H : Nat → Nat} {talls pairs mtall mpairs : Nat → Int32}
theorem mg_n (c1 : 1 ≤ C) (c2 : C ≤ 4) (hr : r ≤ 50) (hT : ∀ k, k < 8 → T k ≤ 250 ∧ talls k = nI (T k) ∧ mtall k = nI (T k)) (hH : ∀ k, k < 64 → H k ≤ 2 ∧ pairs k = nI (H k) ∧ mpairs k = nI (H k)) (hS : ∀ a b, a < 8 → b < 8 → H (8 * a + b) = H (8 * b + a)) {at' : Nat → Int32} {k a j b : Nat} (hk : k < 8) (hj : j < 8) (ha : a < 8) (hb : b < 8) (h1 : at' k = nI a) (h2 : at' j = nI b) (K : Int32 → Option Int32) :
    (bd (ld mpairs 64 (((8 : Int32) * nI k) + nI j)) fun v10 =>
    bd (ld at' 8 (nI j)) fun v11 =>
    bd (ld at' 8 (nI k)) fun v12 =>
    lc K (fun k14 =>
    lc (k14 (0 : Int32)) (fun k13 =>
    if v11 = v12 then
    k13
    else
    bd (f_X9_isHidden (nI C) (nI r) mtall at' (nI k) (nI j)) fun v15 =>
    if v15 = 0 then
    bd (f_X9_isHidden (nI C) (nI r) mtall at' (nI j) (nI k)) fun v16 =>
    if v16 = 0 then
    lc (lc (k14 (1 : Int32)) (fun k19 =>
    if v10 = (2 : Int32) then
    bd (f_X9_areBeside (nI C) at' (nI k) (nI j)) fun v20 =>
    if v20 = 0 then
    k13
    else
    k19
    else
    k19)) (fun k17 =>
    if v10 = (1 : Int32) then
    bd (f_X9_areBeside (nI C) at' (nI k) (nI j)) fun v18 =>
    if v18 = 0 then
    k17
    else
    k13
    else
    k17)
    else
    k13
    else
    k13))) = K (if okN C r T H j b k a then 1 else 0) := by
  obtain ⟨q1, q2, q3⟩ := hH (8 * k + j) (by omega)
  have a1 : (8 : Int32) * nI k + nI j = nI (8 * k + j) := by rw [l_8, pk_mul, nI_add]
  have ho : okN C r T H j b k a = decide (b ≠ a ∧ (hidN C r T k a j b = false ∧ hidN C r T j b k a = false) ∧ ¬ (H (8 * k + j) = 1 ∧ beN C a b = true) ∧ ¬ (H (8 * k + j) = 2 ∧ ¬ beN C a b = true)) := by
    unfold okN
    rw [Bool.eq_iff_iff]
    simp only [decide_eq_true_eq, wb_0, hS j k hj hk, be_sym C a b]
    constructor
    · rintro ⟨u1, ⟨u2, u3, u4⟩, u5, -, -⟩; exact ⟨u1, ⟨u5, u2⟩, u3, u4⟩
    · rintro ⟨u1, ⟨u5, u2⟩, u3, u4⟩; exact ⟨u1, ⟨u2, u3, u4⟩, u5, u3, u4⟩
  rw [ho]
  simp only [lc, a1, ld_n (show 8 * k + j < 64 by omega) (show 64 < 2 ^ 31 by omega), ld_n hj (show 8 < 2 ^ 31 by omega), ld_n hk (show 8 < 2 ^ 31 by omega), h1, h2, bd_some, mhid_n c1 c2 hr hT hk hj ha hb h1 h2, mhid_n c1 c2 hr hT hj hk hb ha h2 h1, mbes_n c1 c2 hk hj ha hb h1 h2, q3, nI_eq (show b < 2 ^ 31 by omega) (show a < 2 ^ 31 by omega)]
  by_cases e : b = a
  · simp [e]
  · by_cases e1 : hidN C r T k a j b = true
    · simp [e, e1]
    · by_cases e2 : hidN C r T j b k a = true
      · simp [e, e1, e2]
      · simp only [if_neg e, if_neg e1, if_neg e2, ↓reduceIte]
        rcases (show H (8 * k + j) = 0 ∨ H (8 * k + j) = 1 ∨ H (8 * k + j) = 2 by omega) with h | h | h
        · rw [h, if_neg (show ¬ nI 0 = 1 by decide), if_neg (show ¬ nI 0 = 2 by decide)]
          simp [e, e1, e2]
        · rw [h, if_pos (show nI 1 = 1 from rfl), if_neg (show ¬ nI 1 = 2 by decide)]
          by_cases e3 : beN C a b = true
          · simp [e, e1, e2, e3]
          · simp [e, e1, e2, e3]
        · rw [h, if_neg (show ¬ nI 2 = 1 by decide), if_pos (show nI 2 = 2 from rfl)]
          by_cases e3 : beN C a b = true
          · simp [e, e1, e2, e3]
          · simp [e, e1, e2, e3]
theorem gd_succ (g : Nat → Nat → Nat → Nat → Bool) (A : Nat → Nat) (k j b : Nat) : gd g A (k + 1) j b = (gd g A k j b && g k (A k) j b) := by
  unfold gd
  rw [Bool.eq_iff_iff]
  simp only [Bool.and_eq_true, decide_eq_true_eq]
  constructor
  · intro h; exact ⟨fun i hi => h i (by omega), h k (by omega)⟩
  · rintro ⟨h1, h2⟩ i hi
    by_cases e : i = k
    · subst e; exact h2
    · exact h1 i (by omega)
theorem gd_mono {g : Nat → Nat → Nat → Nat → Bool} {A : Nat → Nat} {i k j b : Nat} (h : i ≤ k) (hg : gd g A i j b = false) : gd g A k j b = false := by
  unfold gd at hg ⊢
  rw [decide_eq_false_iff_not] at hg ⊢
  exact fun h2 => hg fun x hx => h2 x (by omega)
theorem goes_n {N : Nat} (hN : 20 < N) (hP : R * C ≤ 8) (c1 : 1 ≤ C) (c2 : C ≤ 4) (hr : r ≤ 50) (hT : ∀ k, k < 8 → T k ≤ 250 ∧ talls k = nI (T k) ∧ mtall k = nI (T k)) (hH : ∀ k, k < 64 → H k ≤ 2 ∧ pairs k = nI (H k) ∧ mpairs k = nI (H k)) (hS : ∀ a b, a < 8 → b < 8 → H (8 * a + b) = H (8 * b + a)) {at' : Nat → Int32} {A : Nat → Nat} {k a : Nat} (hk : k < 8) (ha : a < R * C) (h1 : at' k = nI a) (hA : ∀ j, j < k → A j < R * C ∧ at' j = nI (A j)) :
    f_X9_goesWith N (nI R) (nI C) (nI r) mtall mpairs at' (nI k) = some (if gd (okN C r T H) A k k a then 1 else 0) := by
  unfold f_X9_goesWith f_X9_places
  rw [ld_n (by omega) (by omega), bd_some, h1, pk_mul, bd_some]
  simp only [lc]
  rw [if_neg (nI_ge ha (by omega))]
  refine lpI (fun f j (z : Int32) => f_X9_goesWith_L21 (nI C) (nI r) mtall mpairs at' (nI k) (fun z9 => bz z9) f z (nI j)) k (fun j z => z = if gd (okN C r T H) A j k a then 1 else 0) (fun z => z = some (if gd (okN C r T H) A k k a then 1 else 0)) ?_ ?_ N 0 1 (by omega) (by omega) (by simp [gd])
  · rintro f j _ hj rfl ih
    try dsimp only at ih ⊢
    rw [f_X9_goesWith_L21, if_neg (nI_ge hj (by omega))]
    by_cases e : gd (okN C r T H) A j k a = true
    · obtain ⟨b1, b2⟩ := hA j hj
      rw [if_neg (by rw [if_pos e]; decide), mg_n c1 c2 hr hT hH hS hk (show j < 8 by omega) (show a < 8 by omega) (show A j < 8 by omega) h1 b2, nI_1]
      refine ih _ ?_
      rw [gd_succ, e, Bool.true_and]
    · rw [if_pos (by rw [if_neg e]), bz_if, if_neg e, if_neg (by rw [gd_mono (show j ≤ k by omega) (by simpa using e)]; simp)]
  · rintro f _ rfl
    try dsimp only
    rw [f_X9_goesWith_L21, if_pos (Int32.le_refl _), bz_if]
end Find
/-- the reference's list of first places: the first standing whole -/
def mt (n c0 : Nat) (o : Option (Nat → Nat)) (fi : Nat → Int32) : Nat → Int32 := fun j => if c0 = 0 ∧ j < n then o.elim (fi j) (fun B => nI (B j)) else fi j
theorem mt_none (n c0 : Nat) (fi : Nat → Int32) : mt n c0 none fi = fi := by
  funext j
  unfold mt
  split <;> rfl
theorem mt_pos {n c0 : Nat} (o : Option (Nat → Nat)) (fi : Nat → Int32) (h : c0 ≠ 0) : mt n c0 o fi = fi := by
  funext j
  unfold mt
  rw [if_neg (fun h' => h h'.1)]
theorem mt_or {n c0 s : Nat} {o1 o2 : Option (Nat → Nat)} {fi : Nat → Int32} (hz : s = 0 ↔ o1 = none) : mt n (c0 + s) o2 (mt n c0 o1 fi) = mt n c0 (o1.or o2) fi := by
  cases o1 with
  | none =>
    have : s = 0 := hz.mpr rfl
    subst this
    rw [mt_none]
    rfl
  | some B =>
    have : s ≠ 0 := fun h => by have := hz.mp h; exact absurd this (by simp)
    rw [mt_pos _ _ (by omega)]
    rfl
theorem l94_n {N n c : Nat} (hN : 20 < N) (n1 : 1 ≤ n) (hn : n ≤ 8) (hc : c < 2 ^ 31) {at' fi : Nat → Int32} {B : Nat → Nat} (hB : ∀ j, j < n → at' j = nI (B j)) (K : (Nat → Int32) → Option (Int32 × (Nat → Int32) × (Nat → Int32))) :
    f_X9_findStandings_L94 (nI n) (nI c) at' K N (0 : Int32) fi = K (mt n c (some B) fi) := by
  by_cases e : c = 0
  · subst e
    refine lpI (fun f i (z : Nat → Int32) => f_X9_findStandings_L94 (nI n) (nI 0) at' K f (nI i) z) n (fun i z => ∀ j, z j = if j < i then nI (B j) else fi j) (fun z => z = K (mt n 0 (some B) fi)) ?_ ?_ N 0 fi (by omega) (by omega) (fun j => by rw [if_neg (by omega)])
    · intro f i z hi hI ih
      try dsimp only at ih ⊢
      rw [f_X9_findStandings_L94, if_neg (nI_ge hi (by omega)), if_pos (show nI 0 = 0 from rfl), ld_n (by omega) (by omega), bd_some, sti_n (by omega) (by omega), bd_some, nI_1, hB i hi]
      refine ih _ (fun j => ?_)
      by_cases ej : j = i
      · subst ej; rw [upd_s, if_pos (by omega)]
      · rw [upd_n ej, hI j]
        by_cases e2 : j < i
        · rw [if_pos e2, if_pos (by omega)]
        · rw [if_neg e2, if_neg (by omega)]
    · intro f z hI
      try dsimp only
      rw [f_X9_findStandings_L94, if_pos (Int32.le_refl _)]
      congr 1
      funext j
      rw [hI j]
      unfold mt
      by_cases e2 : j < n
      · rw [if_pos e2, if_pos ⟨rfl, e2⟩]; rfl
      · rw [if_neg e2, if_neg (fun h => e2 h.2)]
  · obtain ⟨N, rfl⟩ : ∃ M, N = M + 1 := ⟨N - 1, by omega⟩
    rw [f_X9_findStandings_L94, if_neg (nI_nle (by omega) (by omega)), if_neg (nI_ne0 (by omega) hc), mt_pos _ _ e]
theorem sP_mono (h : Nat → Nat) : ∀ {a b : Nat}, a ≤ b → sP h a ≤ sP h b := by
  intro a b hab
  induction b with
  | zero => rw [show a = 0 by omega]; exact Nat.le_refl _
  | succ b ih =>
    rcases Nat.lt_or_ge a (b + 1) with h1 | h1
    · rw [sP]; have := ih (by omega); omega
    · rw [show a = b + 1 by omega]; exact Nat.le_refl _
section Lev
variable {R C r n : Nat} {T H : Nat → Nat} {talls pairs mtall mpairs : Nat → Int32}
def Lp (n R C r : Nat) (mtall mpairs : Nat → Int32) (N f c : Nat) (y : Int32) (at' fi : Nat → Int32) : Option (Int32 × (Nat → Int32) × (Nat → Int32)) := f_X9_findStandings_L11 (nI n) (nI R) (nI C) (nI r) mtall mpairs N (fun (z8 : Int32) (mo_at_9 : Nat → Int32) (mo_first_10 : Nat → Int32) => some (z8, mo_at_9, mo_first_10)) f (nI c) y at' fi
def Sub (n R C r : Nat) (T H : Nat → Nat) (mtall mpairs : Nat → Int32) (m k : Nat) (A : Nat → Nat) : Prop := ∀ c fi a at', a < R * C → gd (okN C r T H) A k k a = true → c + cE (okN C r T H) (R * C) m (k + 1) (uA A k a) < 2 ^ 31 → (∀ j, j < k → at' j = nI (A j)) → at' k = nI a →
    ∃ t at2, ((∀ j, j < k → at2 j = nI (A j)) ∧ at2 k = nI (a + 1)) ∧ ∀ N f, 20 < N → Lp n R C r mtall mpairs N (f + t) c (nI k) at' fi = Lp n R C r mtall mpairs N f (c + cE (okN C r T H) (R * C) m (k + 1) (uA A k a)) (nI k) at2 (mt n c (fE (okN C r T H) (R * C) m (k + 1) (uA A k a)) fi)
theorem lev_of (n1 : 1 ≤ n) (hn : n ≤ 8) (hP : R * C ≤ 8) (c1 : 1 ≤ C) (c2 : C ≤ 4) (hr : r ≤ 50) (hT : ∀ k, k < 8 → T k ≤ 250 ∧ talls k = nI (T k) ∧ mtall k = nI (T k)) (hH : ∀ k, k < 64 → H k ≤ 2 ∧ pairs k = nI (H k) ∧ mpairs k = nI (H k)) (hS : ∀ a b, a < 8 → b < 8 → H (8 * a + b) = H (8 * b + a)) {m k : Nat} {A : Nat → Nat} (hk : k + (m + 1) = n) (hA : ∀ j, j < k → A j < R * C) (hsub : Sub n R C r T H mtall mpairs m k A) : ∀ c0 fi, c0 + cE (okN C r T H) (R * C) (m + 1) k A < 2 ^ 31 → ∀ d a at', a + d = R * C → (∀ j, j < k → at' j = nI (A j)) → at' k = nI a →
    ∃ t at2, ((∀ j, j + 1 < k → at2 j = nI (A j)) ∧ (1 ≤ k → at2 (k - 1) = nI (A (k - 1) + 1))) ∧ ∀ N f, 20 < N → Lp n R C r mtall mpairs N (f + t) (c0 + sP (fun a => if gd (okN C r T H) A k k a then cE (okN C r T H) (R * C) m (k + 1) (uA A k a) else 0) a) (nI k) at' (mt n c0 (fP (fun a => if gd (okN C r T H) A k k a then fE (okN C r T H) (R * C) m (k + 1) (uA A k a) else none) a) fi) = Lp n R C r mtall mpairs N f (c0 + cE (okN C r T H) (R * C) (m + 1) k A) (nI k + -1) at2 (mt n c0 (fE (okN C r T H) (R * C) (m + 1) k A) fi) := by
  intro c0 fi hc d
  induction d with
  | zero =>
    intro a at' ha h1 h2
    obtain rfl : a = R * C := by omega
    by_cases hk0 : k = 0
    · subst hk0
      refine ⟨1, at', ⟨fun j hj => by omega, fun h => by omega⟩, fun N f hN => ?_⟩
      unfold Lp
      rw [f_X9_findStandings_L11, if_neg (nI_pos (by omega)), ld_n (by omega) (by omega), bd_some, h2]
      unfold f_X9_places
      rw [pk_mul, bd_some, if_neg (nI_nlt (Nat.le_refl _) (by omega)), if_pos (show nI 0 + (-1 : Int32) < 0 by decide)]
      rfl
    · obtain ⟨q, rfl⟩ : ∃ q, k = q + 1 := ⟨k - 1, by omega⟩
      refine ⟨1, upd at' q (nI (A q + 1)), ⟨fun j hj => ?_, fun h => ?_⟩, fun N f hN => ?_⟩
      · rw [upd_n (by omega)]; exact h1 j (by omega)
      · rw [show q + 1 - 1 = q by omega, upd_s]
      · unfold Lp
        rw [f_X9_findStandings_L11, if_neg (nI_pos (by omega)), ld_n (show q + 1 < 8 by omega) (by omega), bd_some, h2]
        unfold f_X9_places
        rw [pk_mul, bd_some, if_neg (nI_nlt (Nat.le_refl _) (by omega)), pk_m1, if_neg (nI_pos (by omega)), ld_n (show q < 8 by omega) (by omega), bd_some, h1 q (by omega), nI_1, sti_n (show q < 8 by omega) (by omega), bd_some]
        rfl
  | succ d ihd =>
    intro a at' ha h1 h2
    have haP : a < R * C := by omega
    by_cases e : gd (okN C r T H) A k k a = true
    · have hsm : sP (fun a => if gd (okN C r T H) A k k a then cE (okN C r T H) (R * C) m (k + 1) (uA A k a) else 0) (a + 1) ≤ cE (okN C r T H) (R * C) (m + 1) k A := sP_mono _ (by omega)
      have hs1 : sP (fun a => if gd (okN C r T H) A k k a then cE (okN C r T H) (R * C) m (k + 1) (uA A k a) else 0) (a + 1) = sP (fun a => if gd (okN C r T H) A k k a then cE (okN C r T H) (R * C) m (k + 1) (uA A k a) else 0) a + cE (okN C r T H) (R * C) m (k + 1) (uA A k a) := by rw [sP, if_pos e]
      have hf1 : fP (fun a => if gd (okN C r T H) A k k a then fE (okN C r T H) (R * C) m (k + 1) (uA A k a) else none) (a + 1) = (fP (fun a => if gd (okN C r T H) A k k a then fE (okN C r T H) (R * C) m (k + 1) (uA A k a) else none) a).or (fE (okN C r T H) (R * C) m (k + 1) (uA A k a)) := by rw [fP, if_pos e]
      obtain ⟨t1, at1, ⟨g1, g2⟩, g3⟩ := hsub (c0 + sP (fun a => if gd (okN C r T H) A k k a then cE (okN C r T H) (R * C) m (k + 1) (uA A k a) else 0) a) (mt n c0 (fP (fun a => if gd (okN C r T H) A k k a then fE (okN C r T H) (R * C) m (k + 1) (uA A k a) else none) a) fi) a at' haP e (by omega) h1 h2
      obtain ⟨t2, at2, g4, g5⟩ := ihd (a + 1) at1 (by omega) g1 g2
      refine ⟨t2 + t1, at2, g4, fun N f hN => ?_⟩
      rw [← Nat.add_assoc, g3 N (f + t2) hN, ← g5 N f hN, hs1, hf1, Nat.add_assoc, mt_or]
      apply sP_fP
      intro x
      split
      · exact cf0 _ _ _ _ _
      · simp
    · have hs1 : sP (fun a => if gd (okN C r T H) A k k a then cE (okN C r T H) (R * C) m (k + 1) (uA A k a) else 0) (a + 1) = sP (fun a => if gd (okN C r T H) A k k a then cE (okN C r T H) (R * C) m (k + 1) (uA A k a) else 0) a := by rw [sP, if_neg e]; rfl
      have hf1 : fP (fun a => if gd (okN C r T H) A k k a then fE (okN C r T H) (R * C) m (k + 1) (uA A k a) else none) (a + 1) = fP (fun a => if gd (okN C r T H) A k k a then fE (okN C r T H) (R * C) m (k + 1) (uA A k a) else none) a := by rw [fP, if_neg e, Option.or_none]
      obtain ⟨t2, at2, g4, g5⟩ := ihd (a + 1) (upd at' k (nI (a + 1))) (by omega) (fun j hj => by rw [upd_n (by omega)]; exact h1 j hj) upd_s
      refine ⟨t2 + 1, at2, g4, fun N f hN => ?_⟩
      rw [← g5 N f hN, hs1, hf1, ← Nat.add_assoc]
      conv => lhs; unfold Lp
      rw [f_X9_findStandings_L11, if_neg (nI_pos (by omega)), ld_n (show k < 8 by omega) (by omega), bd_some, h2]
      unfold f_X9_places
      rw [pk_mul, bd_some, if_pos (nI_lt haP (by omega)), goes_n hN hP c1 c2 hr hT hH hS (by omega) haP h2 (fun j hj => ⟨hA j hj, h1 j hj⟩), bd_some, if_neg e, if_pos rfl, bd_some, nI_1, sti_n (show k < 8 by omega) (by omega), bd_some]
      rfl
theorem lev_n (n1 : 1 ≤ n) (hn : n ≤ 8) (hP : R * C ≤ 8) (c1 : 1 ≤ C) (c2 : C ≤ 4) (hr : r ≤ 50) (hT : ∀ k, k < 8 → T k ≤ 250 ∧ talls k = nI (T k) ∧ mtall k = nI (T k)) (hH : ∀ k, k < 64 → H k ≤ 2 ∧ pairs k = nI (H k) ∧ mpairs k = nI (H k)) (hS : ∀ a b, a < 8 → b < 8 → H (8 * a + b) = H (8 * b + a)) :
    ∀ m k A, k + (m + 1) = n → (∀ j, j < k → A j < R * C) → ∀ c0 fi, c0 + cE (okN C r T H) (R * C) (m + 1) k A < 2 ^ 31 → ∀ d a at', a + d = R * C → (∀ j, j < k → at' j = nI (A j)) → at' k = nI a →
    ∃ t at2, ((∀ j, j + 1 < k → at2 j = nI (A j)) ∧ (1 ≤ k → at2 (k - 1) = nI (A (k - 1) + 1))) ∧ ∀ N f, 20 < N → Lp n R C r mtall mpairs N (f + t) (c0 + sP (fun a => if gd (okN C r T H) A k k a then cE (okN C r T H) (R * C) m (k + 1) (uA A k a) else 0) a) (nI k) at' (mt n c0 (fP (fun a => if gd (okN C r T H) A k k a then fE (okN C r T H) (R * C) m (k + 1) (uA A k a) else none) a) fi) = Lp n R C r mtall mpairs N f (c0 + cE (okN C r T H) (R * C) (m + 1) k A) (nI k + -1) at2 (mt n c0 (fE (okN C r T H) (R * C) (m + 1) k A) fi) := by
  intro m
  induction m with
  | zero =>
    intro k A hk hA
    refine lev_of n1 hn hP c1 c2 hr hT hH hS hk hA ?_
    intro c fi a at' ha hg hc h1 h2
    refine ⟨1, upd at' k (nI (a + 1)), ⟨fun j hj => by rw [upd_n (by omega)]; exact h1 j hj, upd_s⟩, fun N f hN => ?_⟩
    conv => lhs; unfold Lp
    rw [f_X9_findStandings_L11, if_neg (nI_pos (by omega)), ld_n (show k < 8 by omega) (by omega), bd_some, h2]
    unfold f_X9_places
    rw [pk_mul, bd_some, if_pos (nI_lt ha (by omega)), goes_n hN hP c1 c2 hr hT hH hS (by omega) ha h2 (fun j hj => ⟨hA j hj, h1 j hj⟩), bd_some, if_pos hg, if_neg (show ¬ (1 : Int32) = 0 by decide), show nI n - (1 : Int32) = nI k by rw [l_1, pk_sub n1, show n - 1 = k by omega], if_pos (Int32.le_refl _), lc]
    rw [l94_n hN n1 hn (by have : cE (okN C r T H) (R * C) 0 (k + 1) (uA A k a) = 1 := rfl; omega) (B := uA A k a) (fun j hj => by
      unfold uA
      by_cases e : j = k
      · subst e; rw [if_pos rfl]; exact h2
      · rw [if_neg e]; exact h1 j (by omega))]
    rw [bd_some, nI_1 a, sti_n (show k < 8 by omega) (by omega), bd_some, nI_1]
    rfl
  | succ m ihm =>
    intro k A hk hA
    refine lev_of n1 hn hP c1 c2 hr hT hH hS hk hA ?_
    intro c fi a at' ha hg hc h1 h2
    obtain ⟨t1, at1, ⟨g1, g2⟩, g3⟩ := ihm (k + 1) (uA A k a) (by omega) (fun j hj => by
      unfold uA
      by_cases e : j = k
      · rw [if_pos e]; exact ha
      · rw [if_neg e]; exact hA j (by omega)) c fi hc (R * C) 0 (upd at' (k + 1) 0) (by omega) (fun j hj => by
      rw [upd_n (by omega)]
      unfold uA
      by_cases e : j = k
      · subst e; rw [if_pos rfl]; exact h2
      · rw [if_neg e]; exact h1 j (by omega)) upd_s
    refine ⟨t1 + 1, at1, ⟨fun j hj => ?_, ?_⟩, fun N f hN => ?_⟩
    · rw [g1 j (by omega)]
      unfold uA
      rw [if_neg (by omega)]
    · have := g2 (by omega)
      rw [show k + 1 - 1 = k by omega] at this
      rw [this]
      unfold uA
      rw [if_pos rfl]
    · have g4 := g3 N f hN
      rw [pk_m1] at g4
      rw [← g4, ← Nat.add_assoc]
      conv => lhs; unfold Lp
      rw [f_X9_findStandings_L11, if_neg (nI_pos (by omega)), ld_n (show k < 8 by omega) (by omega), bd_some, h2]
      unfold f_X9_places
      rw [pk_mul, bd_some, if_pos (nI_lt ha (by omega)), goes_n hN hP c1 c2 hr hT hH hS (by omega) ha h2 (fun j hj => ⟨hA j hj, h1 j hj⟩), bd_some, if_pos hg, if_neg (show ¬ (1 : Int32) = 0 by decide), show nI n - (1 : Int32) = nI (n - 1) by rw [l_1, pk_sub n1], if_neg (nI_ge (show k < n - 1 by omega) (by omega)), nI_1 k, sti_n (show k + 1 < 8 by omega) (by omega), bd_some]
      rw [sP, fP, mt_none]
      rfl
end Lev
