/-! heads: the table of cuts -/
def mn (f : Nat → Nat) : Nat → Nat
  | 0 => 1000
  | c + 1 => min (mn f c) (f c)
theorem mn_top (f : Nat → Nat) (c : Nat) : mn f c ≤ 1000 := by
  induction c with
  | zero => exact Nat.le_refl _
  | succ c ih => rw [mn]; omega
theorem mn_le {f : Nat → Nat} {c t : Nat} (h : t < c) : mn f c ≤ f t := by
  induction c with
  | zero => omega
  | succ c ih =>
    rw [mn]
    by_cases e : t = c
    · subst e; omega
    · have := ih (by omega); omega
theorem mn_ex (f : Nat → Nat) (c : Nat) : mn f c = 1000 ∨ ∃ t, t < c ∧ f t = mn f c := by
  induction c with
  | zero => exact Or.inl rfl
  | succ c ih =>
    rw [mn]
    by_cases e : f c < mn f c
    · exact Or.inr ⟨c, by omega, by omega⟩
    · rcases ih with h | ⟨t, h1, h2⟩
      · exact Or.inl (by omega)
      · exact Or.inr ⟨t, by omega, by omega⟩
theorem mn_congr {f g : Nat → Nat} {c : Nat} (h : ∀ t, t < c → f t = g t) : mn f c = mn g c := by
  induction c with
  | zero => rfl
  | succ c ih => rw [mn, mn, ih (fun t ht => h t (by omega)), h c (by omega)]
def tb (op : Nat → Nat → Bool) (hold : Nat → Bool) (n c : Nat) : Nat → (Nat → Nat)
  | 0 => fun s => if op s (n - 1) then 0 else 1000
  | d + 1 => fun s => if op s (n - 1 - (d + 1)) then (if hold (n - 1 - (d + 1)) then tb op hold n c d s else min 1000 (min (tb op hold n c d s) (mn (tb op hold n c d) c + 1))) else 1000
theorem tb_0 (op : Nat → Nat → Bool) (hold : Nat → Bool) (n c s : Nat) : tb op hold n c 0 s = if op s (n - 1) then 0 else 1000 := rfl
theorem tb_s (op : Nat → Nat → Bool) (hold : Nat → Bool) (n c d s : Nat) : tb op hold n c (d + 1) s = if op s (n - 1 - (d + 1)) then (if hold (n - 1 - (d + 1)) then tb op hold n c d s else min 1000 (min (tb op hold n c d s) (mn (tb op hold n c d) c + 1))) else 1000 := rfl
theorem tb_top (op : Nat → Nat → Bool) (hold : Nat → Bool) (n c d s : Nat) : tb op hold n c d s ≤ 1000 := by
  induction d with
  | zero => rw [tb_0]; split <;> omega
  | succ d ih =>
    rw [tb_s]
    split
    · split <;> omega
    · omega
/-- the reference's least over all shots is the class's -/
theorem tb_row {T : Nat → Nat} {c s : Nat} (hold : Bool) (hs : s < c) (hT : ∀ t, T t ≤ 1000) :
    mn (fun t => if t = s ∨ hold = false then T t + (if t = s then 0 else 1) else 1000) c = if hold then T s else min 1000 (min (T s) (mn T c + 1)) := by
  have up := mn_le (f := fun t => if t = s ∨ hold = false then T t + (if t = s then 0 else 1) else 1000) hs
  simp only [true_or, ↓reduceIte, Nat.add_zero] at up
  have tp := mn_top (fun t => if t = s ∨ hold = false then T t + (if t = s then 0 else 1) else 1000) c
  have h1 := hT s
  cases hold with
  | true =>
    simp only [Bool.true_eq_false, or_false, ↓reduceIte] at up tp ⊢
    rcases mn_ex (fun t => if t = s then T t + (if t = s then 0 else 1) else 1000) c with h | ⟨t, ht, h⟩
    · rw [h] at up ⊢; omega
    · by_cases e : t = s
      · subst e
        simp only [↓reduceIte, Nat.add_zero] at h
        exact h.symm
      · simp only [e, ↓reduceIte] at h
        rw [← h] at up ⊢; omega
  | false =>
    simp only [Bool.false_eq_true, ↓reduceIte, or_true] at up tp ⊢
    have lo : min 1000 (min (T s) (mn T c + 1)) ≤ mn (fun t => T t + (if t = s then 0 else 1)) c := by
      rcases mn_ex (fun t => T t + (if t = s then 0 else 1)) c with h | ⟨t, ht, h⟩
      · omega
      · by_cases e : t = s
        · subst e
          simp only [↓reduceIte, Nat.add_zero] at h
          omega
        · simp only [e, ↓reduceIte] at h
          have := mn_le (f := T) ht
          omega
    have hi2 : mn (fun t => T t + (if t = s then 0 else 1)) c ≤ mn T c + 1 := by
      rcases mn_ex T c with h | ⟨t, ht, h⟩
      · omega
      · have := mn_le (f := fun t => T t + (if t = s then 0 else 1)) ht
        have h2 : (if t = s then 0 else 1) ≤ 1 := by split <;> omega
        try dsimp only at this
        omega
    omega
theorem imin_n {a b : Nat} (ha : a < 2 ^ 31) (hb : b < 2 ^ 31) : imin (nI a) (nI b) = nI (min a b) := by
  unfold imin
  simp only [nI_ltI hb ha]
  split
  · rw [Nat.min_eq_right (by omega)]
  · rw [Nat.min_eq_left (by omega)]
theorem bit_get0 {b k : Nat} (hb : b < 2 ^ 31) (hk : k < 31) : (((nI b >>> (nI k &&& 31)) &&& (1 : Int32)) = 0) ↔ b.testBit k = false := by
  rw [pk_shrN hb _ k (s_l k (by omega)), pk_andN (k := 1) (Nat.lt_of_le_of_lt (Nat.div_le_self _ _) (by omega)) (by decide), l_0, nI_eq (by omega) (by omega), Nat.testBit_eq_decide_div_mod_eq]
  simp
theorem hold_n {h k : Nat} (hh : h < 2 ^ 31) (hk : k < 31) : f_X6_holdHands (nI h) (nI k) = some (if h.testBit k then 1 else 0) := by
  unfold f_X6_holdHands
  simp only [bit_get hh hk]
  split <;> rfl
theorem l_1000' : (1000 : Int32) = nI 1000 := rfl
section Heads
variable {L bits : Nat → Int32} {n c h N : Nat}
abbrev opn (L : Nat → Int32) : Nat → Nat → Bool := fun s k => decide (L (8 * s + k) = 111)
/-- the class's row -/
theorem fillRow_n (hn : n ≤ 8) (hc : c ≤ 10) (hh : h < 2 ^ 31) (hN : 20 < N) (hb : ∀ s, s < c → ∃ b, b < 2 ^ n ∧ bits s = nI b ∧ ∀ k, k < n → b.testBit k = decide (L (8 * s + k) = 111)) {d : Nat} (hd : d < n) (F : Nat → Int32) (hF : ∀ e, e < d → ∀ s, s < c → F (10 * (n - 1 - e) + s) = nI (tb (opn L) h.testBit n c e s)) (y : Int32) (hy : 0 < d → y = nI (mn (tb (opn L) h.testBit n c (d - 1)) c)) :
    ∃ F', f_X1_fillRow N F (nI c) (nI h) bits (nI (n - 1 - d)) (if d = 0 then 1 else 0) y = some (nI (mn (tb (opn L) h.testBit n c d) c), F') ∧ ∀ e, e ≤ d → ∀ s, s < c → F' (10 * (n - 1 - e) + s) = nI (tb (opn L) h.testBit n c e s) := by
  unfold f_X1_fillRow
  simp only [lc]
  have nn8 : 2 ^ n ≤ 256 := Nat.pow_le_pow_right (n := 2) (by omega) hn
  refine lpI (fun f i (z : Int32 × (Nat → Int32)) => f_X1_fillRow_L8 (nI c) (nI h) bits (nI (n - 1 - d)) (if d = 0 then 1 else 0) y (fun a b => some (a, b)) f z.1 (nI i) z.2) c
    (fun i z => z.1 = nI (mn (tb (opn L) h.testBit n c d) i) ∧ (∀ s, s < i → z.2 (10 * (n - 1 - d) + s) = nI (tb (opn L) h.testBit n c d s)) ∧ ∀ e, e < d → ∀ s, s < c → z.2 (10 * (n - 1 - e) + s) = nI (tb (opn L) h.testBit n c e s))
    (fun z => ∃ F', z = some (nI (mn (tb (opn L) h.testBit n c d) c), F') ∧ ∀ e, e ≤ d → ∀ s, s < c → F' (10 * (n - 1 - e) + s) = nI (tb (opn L) h.testBit n c e s)) ?_ ?_ N 0 (1000, F) (by omega) (by omega) ⟨rfl, fun s hs => by omega, hF⟩
  · rintro f i ⟨a, G⟩ hi ⟨rfl, h1, h2⟩ ih
    dsimp only at h1 h2 ih ⊢
    obtain ⟨b, b1, b2, b3⟩ := hb i hi
    rw [f_X1_fillRow_L8, if_neg (nI_ge hi (by omega)), isOpen_n (by omega) (by omega) (by omega) b2, bd_some, b3 (n - 1 - d) (by omega)]
    simp only [lc, nI_1]
    have fin : ∀ x : Nat, tb (opn L) h.testBit n c d i = x → (∃ F', (bd (sti G 80 ((nI (n - 1 - d) * (10 : Int32)) + nI i) (nI x)) fun G' => f_X1_fillRow_L8 (nI c) (nI h) bits (nI (n - 1 - d)) (if d = 0 then 1 else 0) y (fun a b => some (a, b)) f (imin (nI (mn (tb (opn L) h.testBit n c d) i)) (nI x)) (nI (i + 1)) G') = some (nI (mn (tb (opn L) h.testBit n c d) c), F') ∧ ∀ e, e ≤ d → ∀ s, s < c → F' (10 * (n - 1 - e) + s) = nI (tb (opn L) h.testBit n c e s)) := by
      rintro x rfl
      have t1 := tb_top (opn L) h.testBit n c d i
      have t2 := mn_top (tb (opn L) h.testBit n c d) i
      rw [show (nI (n - 1 - d) * (10 : Int32)) + nI i = nI (10 * (n - 1 - d) + i) by rw [l_10, pk_mul, nI_add, Nat.mul_comm], sti_n (by omega) (by omega), bd_some, imin_n (by omega) (by omega)]
      refine ih (nI (mn (tb (opn L) h.testBit n c d) (i + 1)), upd G (10 * (n - 1 - d) + i) (nI (tb (opn L) h.testBit n c d i))) ⟨rfl, fun s hs => ?_, fun e he s hs => ?_⟩
      · dsimp only
        by_cases es : s = i
        · subst es; rw [upd_s]
        · rw [upd_n (by omega)]; exact h1 s (by omega)
      · dsimp only
        rw [upd_n (by omega)]; exact h2 e he s hs
    by_cases e : L (8 * i + (n - 1 - d)) = 111
    · simp only [e, decide_true, ↓reduceIte, one_ne]
      cases d with
      | zero =>
        simp only [↓reduceIte, one_ne]
        exact fin 0 (by rw [tb_0]; simp [opn]; simpa using e)
      | succ d =>
        have hy' := hy (by omega)
        subst hy'
        rw [if_neg (show ¬ (d + 1 = 0) by omega), if_pos rfl]
        unfold f_X1_cutsBehind
        rw [show (((nI (n - 1 - (d + 1))) + (1 : Int32)) * (10 : Int32)) + nI i = nI (10 * (n - 1 - d) + i) by rw [l_1, nI_add, l_10, pk_mul, nI_add, Nat.mul_comm, show n - 1 - (d + 1) + 1 = n - 1 - d by omega], ld_n (by omega) (by omega), bd_some, h2 d (by omega) i hi, hold_n hh (by omega), bd_some]
        have t1 := tb_top (opn L) h.testBit n c d i
        have t2 := mn_top (tb (opn L) h.testBit n c d) c
        by_cases eh : h.testBit (n - 1 - (d + 1)) = true
        · simp only [eh, ↓reduceIte, one_ne, bd_some]
          refine fin _ ?_
          rw [tb_s]
          simp [opn, e, eh]
        · simp only [eh, Bool.false_eq_true, ↓reduceIte, bd_some]
          rw [show nI (mn (tb (opn L) h.testBit n c (d + 1 - 1)) c) + (1 : Int32) = nI (mn (tb (opn L) h.testBit n c d) c + 1) from nI_1 _, l_1000', imin_n (by omega) (by omega), imin_n (by omega) (by omega)]
          refine fin _ ?_
          rw [tb_s]
          simp [opn, e, eh]
    · simp only [e, decide_false, Bool.false_eq_true, ↓reduceIte]
      refine fin 1000 ?_
      cases d with
      | zero => rw [tb_0, if_neg (by simpa [opn] using e)]
      | succ d => rw [tb_s]; simp [opn, e]
  · rintro f ⟨a, G⟩ ⟨rfl, h1, h2⟩
    dsimp only at h1 h2 ⊢
    rw [f_X1_fillRow_L8, if_pos (Int32.le_refl _)]
    refine ⟨G, rfl, fun e he s hs => ?_⟩
    by_cases ee : e = d
    · subst ee; exact h1 s hs
    · exact h2 e (by omega) s hs
/-- the reference's number of one place -/
theorem mCuts_n (hn : n ≤ 8) (hc : c ≤ 10) (hh : h < 2 ^ 31) (hN : 20 < N) {d i : Nat} (hd : d < n) (hi : i < c) (G : Nat → Int32) (hG : ∀ e, e < d → ∀ s, s < c → G (10 * (n - 1 - e) + s) = nI (tb (opn L) h.testBit n c e s)) :
    f_X9_cutsFrom N (nI n) (nI c) L (nI h) G (nI (n - 1 - d)) (nI i) = some (nI (tb (opn L) h.testBit n c d i)) := by
  unfold f_X9_cutsFrom
  rw [mIsOpen_n (by omega) (by omega), bd_some]
  by_cases e : L (8 * i + (n - 1 - d)) = 111
  · simp only [e, ↓reduceIte, one_ne, lc]
    rw [show nI n - (1 : Int32) = nI (n - 1) by rw [l_1, pk_sub (by omega)]]
    cases d with
    | zero =>
      rw [show n - 1 - 0 = n - 1 from rfl, if_pos rfl, tb_0]
      rw [if_pos (by simpa [opn] using e)]
      rfl
    | succ d =>
      rw [if_neg (nI_nei (by omega) (by omega) (by omega))]
      rw [tb_s]
      simp only [opn, e, decide_true, ↓reduceIte]
      have tt := fun t => tb_top (opn L) h.testBit n c d t
      rw [← tb_row (T := tb (opn L) h.testBit n c d) (h.testBit (n - 1 - (d + 1))) hi tt]
      refine lpI (fun f j (z : Int32) => f_X9_cutsFrom_L32 (nI c) (nI h) G (nI (n - 1 - (d + 1))) (nI i) (fun z => some z) f z (nI j)) c (fun j z => z = nI (mn (fun t => if t = i ∨ h.testBit (n - 1 - (d + 1)) = false then tb (opn L) h.testBit n c d t + (if t = i then 0 else 1) else 1000) j)) (fun z => z = some (nI (mn (fun t => if t = i ∨ h.testBit (n - 1 - (d + 1)) = false then tb (opn L) h.testBit n c d t + (if t = i then 0 else 1) else 1000) c))) ?_ ?_ N 0 1000 (by omega) (by omega) rfl
      · rintro f j _ hj rfl ih
        try dsimp only
        rw [f_X9_cutsFrom_L32, if_neg (nI_ge hj (by omega))]
        have m1 := mn_top (fun t => if t = i ∨ h.testBit (n - 1 - (d + 1)) = false then tb (opn L) h.testBit n c d t + (if t = i then 0 else 1) else 1000) j
        have t1 := tt j
        rw [show ((10 : Int32) * (nI (n - 1 - (d + 1)) + (1 : Int32))) + nI j = nI (10 * (n - 1 - d) + j) by rw [l_1, nI_add, l_10, pk_mul, nI_add, show n - 1 - (d + 1) + 1 = n - 1 - d by omega], ld_n (by omega) (by omega), hG d (by omega) j hj]
        simp only [bd_some, lc, nI_1, bit_get0 hh (show n - 1 - (d + 1) < 31 by omega), nI_eq (show j < 2 ^ 31 by omega) (show i < 2 ^ 31 by omega), one_ne]
        refine Eq.trans ?_ (ih _ rfl)
        rw [mn]
        by_cases e1 : j = i
        · simp only [e1, true_or, ↓reduceIte]
          rw [e1] at m1 t1
          rw [show (nI (tb (opn L) h.testBit n c d i) + (0 : Int32)) = nI (tb (opn L) h.testBit n c d i) from Int32.add_zero _]
          simp only [nI_leI (Nat.lt_of_le_of_lt m1 (by omega)) (show tb (opn L) h.testBit n c d i < 2 ^ 31 by omega), Nat.add_zero]
          split
          · rw [Nat.min_eq_left (by omega)]
          · rw [Nat.min_eq_right (by omega)]
        · simp only [e1, false_or, ↓reduceIte]
          by_cases e2 : h.testBit (n - 1 - (d + 1)) = false
          · simp only [e2, ↓reduceIte]
            simp only [e2, or_true, ↓reduceIte] at m1
            simp only [or_true, ↓reduceIte, nI_1]
            simp only [nI_leI (show mn (fun t => tb (opn L) h.testBit n c d t + if t = i then 0 else 1) j < 2 ^ 31 by omega) (show tb (opn L) h.testBit n c d j + 1 < 2 ^ 31 by omega)]
            split
            · rw [Nat.min_eq_left (by omega)]
            · rw [Nat.min_eq_right (by omega)]
          · have e2' : h.testBit (n - 1 - (d + 1)) = true := by simpa using e2
            simp only [e2', Bool.true_eq_false, ↓reduceIte]
            rw [Nat.min_eq_left (mn_top _ _)]
      · rintro f _ rfl
        try dsimp only
        rw [f_X9_cutsFrom_L32, if_pos (Int32.le_refl _)]
  · simp only [e, ↓reduceIte]
    cases d with
    | zero => rw [tb_0, if_neg (by simpa [opn] using e)]; rfl
    | succ d => rw [tb_s, if_neg (by simpa [opn] using e)]; rfl
end Heads
