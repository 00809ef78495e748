theorem i_addm1 (x : Int32) : x + (-1 : Int32) = x - 1 := by rw [Int32.sub_eq_add_neg]
theorem down_n {n d : Nat} (hn : n < 2 ^ 30) (h : d < n) : nI (n - d) - (1 : Int32) = nI (n - 1 - d) := by rw [l_1, pk_sub (by omega), show n - d - 1 = n - 1 - d by omega]
theorem down_s {n d : Nat} (hn : n < 2 ^ 30) (h : d < n) : nI (n - 1 - d) + (-1 : Int32) = nI (n - (d + 1)) - (1 : Int32) := by rw [i_addm1, show n - (d + 1) = n - 1 - d by omega]
theorem down_neg : nI 0 - (1 : Int32) < 0 := by decide
section Heads2
variable {L bits : Nat → Int32} {n c h N : Nat}
/-- the class's table -/
theorem solve_n (n1 : 1 ≤ n) (hn : n ≤ 8) (hc : c ≤ 10) (hh : h < 2 ^ 31) (hN : 20 < N) (hb : ∀ s, s < c → ∃ b, b < 2 ^ n ∧ bits s = nI b ∧ ∀ k, k < n → b.testBit k = decide (L (8 * s + k) = 111)) (F : Nat → Int32) (K : Int32 → (Nat → Int32) → Option (Int32 × (Nat → Int32) × (Nat → Int32))) :
    ∃ F', f_X1_solve_L7 (nI c) (nI h) bits (nI n) N K N 0 (nI n - (1 : Int32)) F = K (nI (mn (tb (opn L) h.testBit n c (n - 1)) c)) F' ∧ ∀ p, p < n → ∀ s, s < c → F' (10 * p + s) = nI (tb (opn L) h.testBit n c (n - 1 - p) s) := by
  refine lpI (fun f d (z : Int32 × (Nat → Int32)) => f_X1_solve_L7 (nI c) (nI h) bits (nI n) N K f z.1 (nI (n - d) - (1 : Int32)) z.2) n
    (fun d z => (0 < d → z.1 = nI (mn (tb (opn L) h.testBit n c (d - 1)) c)) ∧ ∀ e, e < d → ∀ s, s < c → z.2 (10 * (n - 1 - e) + s) = nI (tb (opn L) h.testBit n c e s))
    (fun z => ∃ F', z = K (nI (mn (tb (opn L) h.testBit n c (n - 1)) c)) F' ∧ ∀ p, p < n → ∀ s, s < c → F' (10 * p + s) = nI (tb (opn L) h.testBit n c (n - 1 - p) s)) ?_ ?_ N 0 (0, F) (by omega) (by omega) ⟨fun h => by omega, fun e h => by omega⟩
  · rintro f d ⟨y, G⟩ hd ⟨h1, h2⟩ ih
    dsimp only at h1 h2 ih ⊢
    rw [down_n (by omega) hd, f_X1_solve_L7, if_neg (nI_pos (by omega))]
    simp only [lc]
    obtain ⟨F', g1, g2⟩ := fillRow_n (N := N) hn hc hh hN hb hd G h2 y h1
    rw [show nI n - (1 : Int32) = nI (n - 1) by rw [l_1, pk_sub (by omega)], down_s (by omega) hd]
    have e : (if nI (n - 1 - d) = nI (n - 1) then bd (f_X1_fillRow N G (nI c) (nI h) bits (nI (n - 1 - d)) 1 y) (fun x => match x with | (v10, hw_cutsFrom_11) => f_X1_solve_L7 (nI c) (nI h) bits (nI n) N K f v10 (nI (n - (d + 1)) - 1) hw_cutsFrom_11) else bd (f_X1_fillRow N G (nI c) (nI h) bits (nI (n - 1 - d)) 0 y) (fun x => match x with | (v10, hw_cutsFrom_11) => f_X1_solve_L7 (nI c) (nI h) bits (nI n) N K f v10 (nI (n - (d + 1)) - 1) hw_cutsFrom_11)) = f_X1_solve_L7 (nI c) (nI h) bits (nI n) N K f (nI (mn (tb (opn L) h.testBit n c d) c)) (nI (n - (d + 1)) - 1) F' := by
      by_cases e0 : d = 0
      · subst e0
        rw [if_pos rfl] at g1
        rw [if_pos (show nI (n - 1 - 0) = nI (n - 1) from rfl), g1, bd_some]
      · rw [if_neg e0] at g1
        rw [if_neg (nI_nei (by omega) (by omega) (by omega)), g1, bd_some]
    rw [e]
    exact ih (nI (mn (tb (opn L) h.testBit n c d) c), F') ⟨fun _ => rfl, fun e he s hs => g2 e (by omega) s hs⟩
  · rintro f ⟨y, G⟩ ⟨h1, h2⟩
    dsimp only at h1 h2 ⊢
    rw [show n - n = 0 by omega, f_X1_solve_L7, if_pos down_neg, h1 (by omega)]
    refine ⟨G, rfl, fun p hp s hs => ?_⟩
    have := h2 (n - 1 - p) (by omega) s hs
    rw [show n - 1 - (n - 1 - p) = p by omega] at this
    exact this
/-- the reference's table -/
theorem mFind_n (n1 : 1 ≤ n) (hn : n ≤ 8) (hc : c ≤ 10) (hh : h < 2 ^ 31) (hN : 20 < N) (F : Nat → Int32) :
    ∃ F', f_X9_findCuts N (nI n) (nI c) L (nI h) F = some F' ∧ ∀ p, p < n → ∀ s, s < c → F' (10 * p + s) = nI (tb (opn L) h.testBit n c (n - 1 - p) s) := by
  unfold f_X9_findCuts
  simp only [lc]
  refine lpI (fun f d (z : Nat → Int32) => f_X9_findCuts_L7 (nI n) (nI c) L (nI h) N (fun z => some z) f (nI (n - d) - (1 : Int32)) z) n
    (fun d z => ∀ e, e < d → ∀ s, s < c → z (10 * (n - 1 - e) + s) = nI (tb (opn L) h.testBit n c e s))
    (fun z => ∃ F', z = some F' ∧ ∀ p, p < n → ∀ s, s < c → F' (10 * p + s) = nI (tb (opn L) h.testBit n c (n - 1 - p) s)) ?_ ?_ N 0 F (by omega) (by omega) (fun e h => by omega)
  · intro f d G hd h2 ih
    try dsimp only
    rw [down_n (by omega) hd, f_X9_findCuts_L7, if_neg (nI_pos (by omega)), down_s (by omega) hd]
    simp only [lc]
    refine lpI (fun f' i (z : Nat → Int32) => f_X9_findCuts_L13 (nI n) (nI c) L (nI h) (nI (n - 1 - d)) N (fun z => f_X9_findCuts_L7 (nI n) (nI c) L (nI h) N (fun z => some z) f (nI (n - (d + 1)) - 1) z) f' (nI i) z) c
      (fun i z => (∀ s, s < i → z (10 * (n - 1 - d) + s) = nI (tb (opn L) h.testBit n c d s)) ∧ ∀ e, e < d → ∀ s, s < c → z (10 * (n - 1 - e) + s) = nI (tb (opn L) h.testBit n c e s))
      (fun z => ∃ F', z = some F' ∧ ∀ p, p < n → ∀ s, s < c → F' (10 * p + s) = nI (tb (opn L) h.testBit n c (n - 1 - p) s)) ?_ ?_ N 0 G (by omega) (by omega) ⟨fun s hs => by omega, h2⟩
    · rintro f' i G' hi ⟨k1, k2⟩ ih'
      try dsimp only
      rw [f_X9_findCuts_L13, if_neg (nI_ge hi (by omega)), mCuts_n hn hc hh hN hd hi G' k2, bd_some, show ((10 : Int32) * nI (n - 1 - d)) + nI i = nI (10 * (n - 1 - d) + i) by rw [l_10, pk_mul, nI_add], sti_n (by omega) (by omega), bd_some, nI_1]
      refine ih' _ ⟨fun s hs => ?_, fun e he s hs => ?_⟩
      · by_cases es : s = i
        · subst es; rw [upd_s]
        · rw [upd_n (by omega)]; exact k1 s (by omega)
      · rw [upd_n (by omega)]; exact k2 e he s hs
    · rintro f' G' ⟨k1, k2⟩
      try dsimp only
      rw [f_X9_findCuts_L13, if_pos (Int32.le_refl _)]
      refine ih G' (fun e he s hs => ?_)
      by_cases ee : e = d
      · subst ee; exact k1 s hs
      · exact k2 e (by omega) s hs
  · intro f G h2
    try dsimp only
    rw [show n - n = 0 by omega, f_X9_findCuts_L7, if_pos down_neg]
    refine ⟨G, rfl, fun p hp s hs => ?_⟩
    have := h2 (n - 1 - p) (by omega) s hs
    rw [show n - 1 - (n - 1 - p) = p by omega] at this
    exact this
theorem mFew_n (hc : c ≤ 10) (hN : 20 < N) {F : Nat → Int32} {T : Nat → Nat} (hT : ∀ s, T s ≤ 1000) (hF : ∀ s, s < c → F s = nI (T s)) : f_X9_fewestCuts N (nI c) F = some (nI (mn T c)) := by
  unfold f_X9_fewestCuts
  simp only [lc]
  refine lpI (fun f i (z : Int32) => f_X9_fewestCuts_L6 (nI c) F (fun z => some z) f z (nI i)) c (fun i z => z = nI (mn T i)) (fun z => z = some (nI (mn T c))) ?_ ?_ N 0 1000 (by omega) (by omega) rfl
  · rintro f i _ hi rfl ih
    try dsimp only
    have t1 := hT i
    have t2 := mn_top T i
    rw [f_X9_fewestCuts_L6, if_neg (nI_ge hi (by omega)), ld_n (by omega) (by omega), hF i hi]
    simp only [bd_some, lc, nI_1, nI_leI (show mn T i < 2 ^ 31 by omega) (show T i < 2 ^ 31 by omega)]
    refine Eq.trans ?_ (ih _ rfl)
    rw [mn]
    split
    · rw [Nat.min_eq_left (by omega)]
    · rw [Nat.min_eq_right (by omega)]
  · rintro f _ rfl
    try dsimp only
    rw [f_X9_fewestCuts_L6, if_pos (Int32.le_refl _)]
end Heads2
/-- the first place that fits -/
def fi (P : Nat → Bool) : Nat → Nat → Nat
  | 0, k => k
  | m + 1, k => if P k then k else fi P m (k + 1)
theorem fi_spec (P : Nat → Bool) : ∀ (m k : Nat), (∃ s, k ≤ s ∧ s < k + m ∧ P s = true) → P (fi P m k) = true ∧ k ≤ fi P m k ∧ fi P m k < k + m ∧ ∀ t, k ≤ t → t < fi P m k → P t = false := by
  intro m
  induction m with
  | zero => rintro k ⟨s, h1, h2, h3⟩; omega
  | succ m ih =>
    rintro k ⟨s, h1, h2, h3⟩
    rw [fi]
    by_cases e : P k = true
    · rw [if_pos e]
      exact ⟨e, by omega, by omega, fun t h1 h2 => by omega⟩
    · rw [if_neg e]
      obtain ⟨g1, g2, g3, g4⟩ := ih (k + 1) ⟨s, by
        by_cases es : s = k
        · subst es; exact absurd h3 e
        · omega, by omega, h3⟩
      refine ⟨g1, by omega, by omega, fun t h1 h2 => ?_⟩
      by_cases et : t = k
      · subst et; simpa using e
      · exact g4 t (by omega) h2
def chs (T : Nat → Nat → Nat) (hold : Nat → Bool) (c : Nat) : Nat → Nat
  | 0 => fi (fun s => decide (T 0 s = mn (T 0) c)) c 0
  | p + 1 => if hold p then chs T hold c p else fi (fun s => decide (T (p + 1) s + (if s = chs T hold c p then 0 else 1) = T p (chs T hold c p))) c 0
theorem chs_s (T : Nat → Nat → Nat) (hold : Nat → Bool) (c p : Nat) : chs T hold c (p + 1) = if hold p then chs T hold c p else fi (fun s => decide (T (p + 1) s + (if s = chs T hold c p then 0 else 1) = T p (chs T hold c p))) c 0 := rfl
section Chs
variable {L : Nat → Int32} {n c h : Nat}
abbrev TT (L : Nat → Int32) (h n c : Nat) : Nat → Nat → Nat := fun p s => tb (opn L) h.testBit n c (n - 1 - p) s
theorem TT_step {p : Nat} (hp : p + 1 < n) (s : Nat) (hT : TT L h n c p s < 1000) : (h.testBit p = true → TT L h n c p s = TT L h n c (p + 1) s) ∧ (h.testBit p = false → TT L h n c p s = min (TT L h n c (p + 1) s) (mn (TT L h n c (p + 1)) c + 1)) := by
  unfold TT at hT ⊢
  rw [show n - 1 - p = (n - 1 - (p + 1)) + 1 by omega, tb_s, show n - 1 - (n - 1 - (p + 1) + 1) = p by omega] at hT ⊢
  by_cases eo : opn L s p = true
  · rw [if_pos eo] at hT ⊢
    constructor
    · intro e
      rw [if_pos e]
    · intro e
      rw [if_neg (by simp [e])] at hT ⊢
      have := tb_top (opn L) h.testBit n c (n - 1 - (p + 1)) s
      have e2 : tb (opn L) h.testBit n c (n - 1 - (p + 1)) = (fun s => tb (opn L) h.testBit n c (n - 1 - (p + 1)) s) := rfl
      rw [← e2]
      omega
  · rw [if_neg eo] at hT
    omega
theorem chs_ok (n1 : 1 ≤ n) (h0 : mn (TT L h n c 0) c < 1000) : ∀ p, p < n → chs (TT L h n c) h.testBit c p < c ∧ TT L h n c p (chs (TT L h n c) h.testBit c p) < 1000 ∧ (p = 0 → TT L h n c 0 (chs (TT L h n c) h.testBit c 0) = mn (TT L h n c 0) c ∧ ∀ t, t < chs (TT L h n c) h.testBit c 0 → TT L h n c 0 t ≠ mn (TT L h n c 0) c) ∧ ∀ q, p = q + 1 → (TT L h n c p (chs (TT L h n c) h.testBit c p) + (if chs (TT L h n c) h.testBit c p = chs (TT L h n c) h.testBit c q then 0 else 1) = TT L h n c q (chs (TT L h n c) h.testBit c q) ∧ (h.testBit q = true → chs (TT L h n c) h.testBit c p = chs (TT L h n c) h.testBit c q) ∧ (h.testBit q = false → ∀ t, t < chs (TT L h n c) h.testBit c p → TT L h n c p t + (if t = chs (TT L h n c) h.testBit c q then 0 else 1) ≠ TT L h n c q (chs (TT L h n c) h.testBit c q))) := by
  intro p
  induction p with
  | zero =>
    intro _
    have ex : ∃ s, 0 ≤ s ∧ s < 0 + c ∧ decide (TT L h n c 0 s = mn (TT L h n c 0) c) = true := by
      rcases mn_ex (TT L h n c 0) c with e | ⟨t, h1, h2⟩
      · omega
      · exact ⟨t, by omega, by omega, by simpa using h2⟩
    obtain ⟨g1, g2, g3, g4⟩ := fi_spec _ c 0 ex
    have g1' : TT L h n c 0 (chs (TT L h n c) h.testBit c 0) = mn (TT L h n c 0) c := by simpa [chs] using g1
    refine ⟨by rw [chs]; omega, by rw [g1']; exact h0, fun _ => ⟨g1', fun t ht => ?_⟩, fun q hq => by omega⟩
    have := g4 t (by omega) (by rw [chs] at ht; exact ht)
    simpa using this
  | succ p ih =>
    intro hp
    obtain ⟨i1, i2, -, -⟩ := ih (by omega)
    obtain ⟨s1, s2⟩ := TT_step (L := L) (h := h) (n := n) (c := c) hp _ i2
    rw [chs_s]
    by_cases eh : h.testBit p = true
    · rw [if_pos eh]
      have := s1 eh
      refine ⟨i1, by omega, fun e => by omega, fun q hq => ?_⟩
      have hq : q = p := by omega
      subst hq
      exact ⟨by simp; omega, fun _ => rfl, fun e => by rw [eh] at e; cases e⟩
    · have eh' : h.testBit p = false := by simpa using eh
      rw [if_neg eh]
      have s3 := s2 eh'
      have ex : ∃ s, 0 ≤ s ∧ s < 0 + c ∧ decide (TT L h n c (p + 1) s + (if s = chs (TT L h n c) h.testBit c p then 0 else 1) = TT L h n c p (chs (TT L h n c) h.testBit c p)) = true := by
        by_cases e : TT L h n c (p + 1) (chs (TT L h n c) h.testBit c p) ≤ mn (TT L h n c (p + 1)) c + 1
        · exact ⟨chs (TT L h n c) h.testBit c p, by omega, by omega, by simp; omega⟩
        · rcases mn_ex (TT L h n c (p + 1)) c with e2 | ⟨t, h1, h2⟩
          · omega
          · have hne : t ≠ chs (TT L h n c) h.testBit c p := fun ee => by subst ee; omega
            exact ⟨t, by omega, by omega, by simp [hne]; omega⟩
      obtain ⟨g1, g2, g3, g4⟩ := fi_spec _ c 0 ex
      have g1' := of_decide_eq_true g1
      refine ⟨by omega, by omega, fun e => by omega, fun q hq => ?_⟩
      have hq : q = p := by omega
      subst hq
      refine ⟨g1', fun e => absurd e eh, fun _ t ht => ?_⟩
      have := g4 t (by omega) ht
      simpa using this
end Chs
