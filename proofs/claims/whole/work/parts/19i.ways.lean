/-! all standings, in plain numbers: who goes with whom is g -/
def gd (g : Nat → Nat → Nat → Nat → Bool) (A : Nat → Nat) (k j b : Nat) : Bool := decide (∀ i, i < k → g i (A i) j b = true)
def uA (A : Nat → Nat) (k a : Nat) : Nat → Nat := fun j => if j = k then a else A j
def sP (h : Nat → Nat) : Nat → Nat
  | 0 => 0
  | p + 1 => sP h p + h p
def fP {σ : Type} (h : Nat → Option σ) : Nat → Option σ
  | 0 => none
  | p + 1 => (fP h p).or (h p)
def cE (g : Nat → Nat → Nat → Nat → Bool) (P : Nat) : Nat → Nat → (Nat → Nat) → Nat
  | 0, _, _ => 1
  | m + 1, k, A => sP (fun a => if gd g A k k a then cE g P m (k + 1) (uA A k a) else 0) P
def fE (g : Nat → Nat → Nat → Nat → Bool) (P : Nat) : Nat → Nat → (Nat → Nat) → Option (Nat → Nat)
  | 0, _, A => some A
  | m + 1, k, A => fP (fun a => if gd g A k k a then fE g P m (k + 1) (uA A k a) else none) P
theorem sP_fP {σ : Type} {h : Nat → Nat} {h' : Nat → Option σ} (e : ∀ a, h a = 0 ↔ h' a = none) : ∀ p, sP h p = 0 ↔ fP h' p = none
  | 0 => by simp [sP, fP]
  | p + 1 => by
    have := sP_fP e p
    have e' := e p
    simp only [sP, fP, Option.or_eq_none_iff]
    rw [← this, ← e']
    omega
theorem cf0 (g : Nat → Nat → Nat → Nat → Bool) (P : Nat) : ∀ m k A, cE g P m k A = 0 ↔ fE g P m k A = none
  | 0, k, A => by simp [cE, fE]
  | m + 1, k, A => by
    rw [cE, fE]
    apply sP_fP
    intro a
    split
    · exact cf0 g P m _ _
    · simp
theorem sP_le {h : Nat → Nat} {M : Nat} (e : ∀ a, h a ≤ M) : ∀ p, sP h p ≤ p * M
  | 0 => by simp [sP]
  | p + 1 => by
    have := sP_le e p
    have := e p
    rw [sP, Nat.succ_mul]
    omega
theorem cE_le (g : Nat → Nat → Nat → Nat → Bool) {P : Nat} (hP : P ≤ 8) : ∀ m k A, cE g P m k A ≤ 8 ^ m
  | 0, k, A => by simp [cE]
  | m + 1, k, A => by
    rw [cE, Nat.pow_succ, Nat.mul_comm]
    refine Nat.le_trans (sP_le (M := 8 ^ m) ?_ P) (Nat.mul_le_mul hP (Nat.le_refl _))
    intro a
    split
    · exact cE_le g hP m _ _
    · exact Nat.zero_le _
theorem fP_some {σ : Type} {h : Nat → Option σ} : ∀ {p x}, fP h p = some x → ∃ a, a < p ∧ h a = some x
  | 0, x, e => by simp [fP] at e
  | p + 1, x, e => by
    rw [fP, Option.or_eq_some_iff] at e
    rcases e with e | ⟨_, e⟩
    · obtain ⟨a, h1, h2⟩ := fP_some e
      exact ⟨a, by omega, h2⟩
    · exact ⟨p, by omega, e⟩
theorem fE_b (g : Nat → Nat → Nat → Nat → Bool) (P : Nat) : ∀ m k A B, fE g P m k A = some B → (∀ j, j < k → B j = A j) ∧ ∀ j, k ≤ j → j < k + m → B j < P
  | 0, k, A, B => by
    intro h
    rw [fE] at h
    obtain rfl := Option.some.inj h
    exact ⟨fun _ _ => rfl, fun j h1 h2 => by omega⟩
  | m + 1, k, A, B => by
    intro h
    rw [fE] at h
    obtain ⟨a, h1, h2⟩ := fP_some h
    split at h2
    · obtain ⟨h3, h4⟩ := fE_b g P m (k + 1) (uA A k a) B h2
      refine ⟨fun j hj => ?_, fun j j1 j2 => ?_⟩
      · rw [h3 j (by omega)]
        unfold uA
        rw [if_neg (by omega)]
      · by_cases e : j = k
        · subst e
          rw [h3 j (by omega)]
          unfold uA
          rw [if_pos rfl]
          exact h1
        · exact h4 j (by omega) (by omega)
    · exact absurd h2 (by simp)
theorem fE_k {g : Nat → Nat → Nat → Nat → Bool} {P m k a : Nat} {A B : Nat → Nat} (h : fE g P m (k + 1) (uA A k a) = some B) : B k = a := by
  rw [(fE_b g P m (k + 1) _ B h).1 k (by omega)]
  unfold uA
  rw [if_pos rfl]
theorem gd_s (g : Nat → Nat → Nat → Nat → Bool) (A : Nat → Nat) (k a j b : Nat) : gd g (uA A k a) (k + 1) j b = (gd g A k j b && g k a j b) := by
  unfold gd
  rw [Bool.eq_iff_iff]
  simp only [Bool.and_eq_true, decide_eq_true_eq]
  constructor
  · intro h
    refine ⟨fun i hi => ?_, ?_⟩
    · have := h i (by omega)
      unfold uA at this
      rw [if_neg (by omega)] at this
      exact this
    · have := h k (by omega)
      unfold uA at this
      rw [if_pos rfl] at this
      exact this
  · rintro ⟨h1, h2⟩ i hi
    unfold uA
    by_cases e : i = k
    · subst e
      rw [if_pos rfl]
      exact h2
    · rw [if_neg e]
      exact h1 i (by omega)
/-- the class's list of first places: a place is noted once -/
def nt (k n : Nat) (o : Option (Nat → Nat)) (F : Nat → Int32) : Nat → Int32 := fun j => if k ≤ j ∧ j < n ∧ F j = -6 then o.elim (-6) (fun B => nI (B j)) else F j
theorem nt_none (k n : Nat) (F : Nat → Int32) : nt k n none F = F := by
  funext j
  unfold nt
  split
  · rename_i h
    exact h.2.2.symm
  · rfl
theorem nt_or {k n : Nat} {o1 o2 : Option (Nat → Nat)} {F : Nat → Int32} (hb : ∀ B, o1 = some B → ∀ j, k ≤ j → j < n → B j < 2 ^ 31) : nt k n o2 (nt k n o1 F) = nt k n (o1.or o2) F := by
  cases o1 with
  | none => rw [nt_none]; rfl
  | some B =>
    funext j
    show (if k ≤ j ∧ j < n ∧ (if k ≤ j ∧ j < n ∧ F j = -6 then nI (B j) else F j) = -6 then o2.elim (-6) (fun B => nI (B j)) else (if k ≤ j ∧ j < n ∧ F j = -6 then nI (B j) else F j)) = if k ≤ j ∧ j < n ∧ F j = -6 then nI (B j) else F j
    by_cases h : k ≤ j ∧ j < n ∧ F j = -6
    · rw [if_pos h, if_neg]
      rintro ⟨h1, h2, h3⟩
      exact nI_m6 (hb B rfl j h1 h2) h3
    · rw [if_neg h, if_neg h]
theorem note_n {k n a : Nat} {B : Nat → Nat} {F : Nat → Int32} (hk : k < n) (hn : n ≤ 8) (hB : B k = a) : f_X4_noteFirst (nt (k + 1) n (some B) F) (nI k) (nI a) = some (nt k n (some B) F) := by
  unfold f_X4_noteFirst
  rw [ld_n (by omega) (by omega), bd_some, sti_n (by omega) (by omega), bd_some]
  have e : nt (k + 1) n (some B) F k = F k := by
    unfold nt
    rw [if_neg (by omega)]
  rw [e]
  split
  · rename_i h
    congr 1
    funext j
    by_cases ej : j = k
    · subst ej
      rw [upd_s]
      unfold nt
      rw [if_pos ⟨by omega, hk, h⟩, ← hB]
      rfl
    · rw [upd_n ej]
      unfold nt
      by_cases hj : k + 1 ≤ j ∧ j < n ∧ F j = -6
      · rw [if_pos hj, if_pos ⟨by omega, hj.2⟩]
      · rw [if_neg hj, if_neg (fun h' => hj ⟨by omega, h'.2⟩)]
  · rename_i h
    congr 1
    funext j
    unfold nt
    by_cases hj : k + 1 ≤ j ∧ j < n ∧ F j = -6
    · rw [if_pos hj, if_pos ⟨by omega, hj.2⟩]
    · rw [if_neg hj, if_neg]
      rintro ⟨h1, h2, h3⟩
      by_cases ej : j = k
      · subst ej; exact h h3
      · exact hj ⟨by omega, h2, h3⟩
/-- the byte of person k -/
theorem byte_n {f k : Nat} (hf : f < 2 ^ 64) (hk : k < 8) : (Int64.toInt32 ((Int64.toUInt64 (lN f) >>> (Int64.toUInt64 (Int32.toInt64 (nI k * (8 : Int32))) &&& Int64.toUInt64 63)).toInt64)) &&& (255 : Int32) = nI (f / 2 ^ (8 * k) % 2 ^ 8) := by
  rw [l_8, pk_mul, wb_shr hf (by omega), lN_i, show (255 : Int32) = nI (2 ^ 8 - 1) from rfl, fa_mask, Nat.mul_comm k 8]
theorem byte_b {f k a : Nat} (ha : a < 8) : (f / 2 ^ (8 * k) % 2 ^ 8).testBit a = f.testBit (8 * k + a) := by
  rw [Nat.testBit_mod_two_pow, Nat.testBit_div_two_pow, decide_eq_true ha, Bool.true_and, Nat.add_comm]
theorem cnt_sP (p : Nat → Bool) : ∀ n, cnt p n = sP (fun a => if p a then 1 else 0) n
  | 0 => rfl
  | n + 1 => by rw [cnt, sP, cnt_sP p n]
theorem sP_congr {h h' : Nat → Nat} : ∀ {p}, (∀ a, a < p → h a = h' a) → sP h p = sP h' p
  | 0, _ => rfl
  | p + 1, e => by rw [sP, sP, sP_congr (fun a ha => e a (by omega)), e p (by omega)]
theorem cnt_stop {p : Nat → Bool} {P : Nat} (h : ∀ a, P ≤ a → p a = false) : ∀ d, cnt p (P + d) = cnt p P
  | 0 => rfl
  | d + 1 => by
    show cnt p ((P + d) + 1) = _
    rw [cnt, cnt_stop h d, h (P + d) (by omega)]
    rfl
theorem fP_least {σ : Type} {h : Nat → Option σ} {x : σ} : ∀ {p j : Nat}, j < p → h j = some x → (∀ i, i < j → h i = none) → fP h p = some x := by
  have n0 : ∀ j, (∀ i, i < j → h i = none) → fP h j = none := by
    intro j
    induction j with
    | zero => intro _; rfl
    | succ j ih => intro e; rw [fP, ih (fun i hi => e i (by omega)), e j (by omega)]; rfl
  intro p
  induction p with
  | zero => intro j hj; omega
  | succ p ih =>
    intro j hj h1 h2
    rw [fP]
    by_cases e : j = p
    · subst e
      rw [n0 j h2, h1]
      rfl
    · rw [ih (by omega) h1 h2]
      rfl
theorem fP_none {σ : Type} {h : Nat → Option σ} : ∀ {p : Nat}, (∀ i, i < p → h i = none) → fP h p = none
  | 0, _ => rfl
  | p + 1, e => by rw [fP, fP_none (fun i hi => e i (by omega)), e p (by omega)]; rfl
