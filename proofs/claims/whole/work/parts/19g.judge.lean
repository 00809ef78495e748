/-! hidden, beside, wrong: in plain numbers -/
def beN (C a b : Nat) : Bool := decide ((a / C - b / C) + (b / C - a / C) + ((a % C - b % C) + (b % C - a % C)) = 1)
def hidN (C r : Nat) (T : Nat → Nat) (i a j b : Nat) : Bool := decide (a % C = b % C) && (decide (b / C < a / C) && !(decide (T j + r * (b / C) < T i + r * (a / C))))
def wbN (C r : Nat) (T H : Nat → Nat) (i a j b : Nat) : Nat := if hidN C r T i a j b then 1 else if H (8 * i + j) = 1 ∧ beN C a b then 2 else if H (8 * i + j) = 2 ∧ ¬ beN C a b then 3 else 0
theorem col_n : ∀ C, C < 5 → 1 ≤ C → ∀ a, a < 9 → irm (nI a) (nI C) = some (nI (a % C)) ∧ idv (nI a) (nI C) = some (nI (a / C)) ∧ f_X7_columnOf (nI C) (nI a) = some (nI (a % C)) ∧ f_X7_rowOf (nI C) (nI a) = some (nI (a / C)) := by decide +kernel
theorem nei_n : ∀ C, C < 5 → 1 ≤ C → ∀ a, a < 8 → ∀ b, b < 8 → f_X7_areNeighbours (nI C) (nI a) (nI b) = some (if beN C a b then 1 else 0) := by decide +kernel
theorem bes_0 : ∀ C, C < 5 → 1 ≤ C → ∀ a, a < 8 → ∀ b, b < 8 → (((nI (a % C) - nI (b % C)) * (nI (a % C) - nI (b % C)) + ((nI (a / C) - nI (b / C)) * (nI (a / C) - nI (b / C))) = (1 : Int32)) ↔ beN C a b = true) := by decide +kernel
section St
variable {C r : Nat} {T H : Nat → Nat} {talls pairs mtall mpairs : Nat → Int32}
theorem shid_n (c1 : 1 ≤ C) (c2 : C ≤ 4) (hr : r ≤ 50) (hT : ∀ k, k < 8 → T k ≤ 250 ∧ talls k = nI (T k) ∧ mtall k = nI (T k)) {i a j b : Nat} (hi : i < 8) (hj : j < 8) (ha : a < 8) (hb : b < 8) :
    f_X7_isHidden (nI C) (nI r) talls (nI i) (nI a) (nI j) (nI b) = some (if hidN C r T i a j b then 1 else 0) := by
  obtain ⟨-, -, p1, p2⟩ := col_n C (by omega) c1 a (by omega)
  obtain ⟨-, -, q1, q2⟩ := col_n C (by omega) c1 b (by omega)
  obtain ⟨t1, t2, -⟩ := hT i hi
  obtain ⟨u1, u2, -⟩ := hT j hj
  have a1 : a % C < 8 := Nat.lt_of_le_of_lt (Nat.mod_le _ _) ha
  have a2 : a / C < 8 := Nat.lt_of_le_of_lt (Nat.div_le_self _ _) ha
  have b1 : b % C < 8 := Nat.lt_of_le_of_lt (Nat.mod_le _ _) hb
  have b2 : b / C < 8 := Nat.lt_of_le_of_lt (Nat.div_le_self _ _) hb
  have m1 : r * (a / C) ≤ 50 * 8 := Nat.mul_le_mul hr (by omega)
  have m2 : r * (b / C) ≤ 50 * 8 := Nat.mul_le_mul hr (by omega)
  unfold f_X7_isHidden hidN
  simp only [p1, p2, q1, q2, bd_some, ld_n hi (show 8 < 2 ^ 31 by omega), ld_n hj (show 8 < 2 ^ 31 by omega), t2, u2, pk_mul, nI_add, nI_eq (show a % C < 2 ^ 31 by omega) (show b % C < 2 ^ 31 by omega), nI_ltI (show b / C < 2 ^ 31 by omega) (show a / C < 2 ^ 31 by omega), nI_ltI (show T j + r * (b / C) < 2 ^ 31 by omega) (show T i + r * (a / C) < 2 ^ 31 by omega)]
  by_cases e1 : a % C = b % C
  · by_cases e2 : b / C < a / C
    · by_cases e3 : T j + r * (b / C) < T i + r * (a / C)
      · simp [e1, e2, e3]
      · simp [e1, e2, e3]
    · simp [e1, e2]
  · simp [e1]
theorem mhid_n (c1 : 1 ≤ C) (c2 : C ≤ 4) (hr : r ≤ 50) (hT : ∀ k, k < 8 → T k ≤ 250 ∧ talls k = nI (T k) ∧ mtall k = nI (T k)) {at' : Nat → Int32} {i a j b : Nat} (hi : i < 8) (hj : j < 8) (ha : a < 8) (hb : b < 8) (h1 : at' i = nI a) (h2 : at' j = nI b) :
    f_X9_isHidden (nI C) (nI r) mtall at' (nI i) (nI j) = some (if hidN C r T i a j b then 1 else 0) := by
  obtain ⟨p1, p2, -⟩ := col_n C (by omega) c1 a (by omega)
  obtain ⟨q1, q2, -⟩ := col_n C (by omega) c1 b (by omega)
  obtain ⟨t1, -, t2⟩ := hT i hi
  obtain ⟨u1, -, u2⟩ := hT j hj
  have a1 : a % C < 8 := Nat.lt_of_le_of_lt (Nat.mod_le _ _) ha
  have a2 : a / C < 8 := Nat.lt_of_le_of_lt (Nat.div_le_self _ _) ha
  have b1 : b % C < 8 := Nat.lt_of_le_of_lt (Nat.mod_le _ _) hb
  have b2 : b / C < 8 := Nat.lt_of_le_of_lt (Nat.div_le_self _ _) hb
  have m1 : r * (a / C) ≤ 50 * 8 := Nat.mul_le_mul hr (by omega)
  have m2 : r * (b / C) ≤ 50 * 8 := Nat.mul_le_mul hr (by omega)
  unfold f_X9_isHidden f_X9_heightOf hidN
  simp only [ld_n hi (show 8 < 2 ^ 31 by omega), ld_n hj (show 8 < 2 ^ 31 by omega), h1, h2, p1, p2, q1, q2, bd_some, t2, u2, pk_mul, nI_add, nI_eq (show a % C < 2 ^ 31 by omega) (show b % C < 2 ^ 31 by omega), nI_leI (show a / C < 2 ^ 31 by omega) (show b / C < 2 ^ 31 by omega), nI_ltI (show T j + r * (b / C) < 2 ^ 31 by omega) (show T i + r * (a / C) < 2 ^ 31 by omega)]
  by_cases e1 : a % C = b % C
  · by_cases e2 : b / C < a / C
    · by_cases e3 : T j + r * (b / C) < T i + r * (a / C)
      · simp [e1, e2, e3, Nat.not_le.mpr e2]
      · simp [e1, e2, e3, Nat.not_le.mpr e2]
    · simp [e1, e2, Nat.le_of_not_lt e2]
  · simp [e1]
theorem mbes_n (c1 : 1 ≤ C) (c2 : C ≤ 4) {at' : Nat → Int32} {i a j b : Nat} (hi : i < 8) (hj : j < 8) (ha : a < 8) (hb : b < 8) (h1 : at' i = nI a) (h2 : at' j = nI b) :
    f_X9_areBeside (nI C) at' (nI i) (nI j) = some (if beN C a b then 1 else 0) := by
  obtain ⟨p1, p2, -⟩ := col_n C (by omega) c1 a (by omega)
  obtain ⟨q1, q2, -⟩ := col_n C (by omega) c1 b (by omega)
  unfold f_X9_areBeside
  simp only [ld_n hi (show 8 < 2 ^ 31 by omega), ld_n hj (show 8 < 2 ^ 31 by omega), h1, h2, p1, p2, q1, q2, bd_some, bes_0 C (by omega) c1 a ha b hb]
  split <;> rfl
theorem wb_n (c1 : 1 ≤ C) (c2 : C ≤ 4) (hr : r ≤ 50) (hT : ∀ k, k < 8 → T k ≤ 250 ∧ talls k = nI (T k) ∧ mtall k = nI (T k)) (hH : ∀ k, k < 64 → H k ≤ 2 ∧ pairs k = nI (H k) ∧ mpairs k = nI (H k)) {i a j b : Nat} (hi : i < 8) (hj : j < 8) (ha : a < 8) (hb : b < 8) :
    f_X7_wrongBetween (nI C) (nI r) talls pairs (nI i) (nI a) (nI j) (nI b) = some (nI (wbN C r T H i a j b)) := by
  obtain ⟨q1, q2, q3⟩ := hH (8 * i + j) (by omega)
  unfold f_X7_wrongBetween wbN
  have a1 : nI i * (8 : Int32) + nI j = nI (8 * i + j) := by rw [l_8, pk_mul, nI_add, Nat.mul_comm]
  rw [shid_n c1 c2 hr hT hi hj ha hb, bd_some]
  by_cases e : hidN C r T i a j b = true
  · simp only [if_pos e, one_ne, ↓reduceIte]
    rfl
  · simp only [if_neg e, ↓reduceIte, a1, ld_n (show 8 * i + j < 64 by omega) (show 64 < 2 ^ 31 by omega), bd_some, q2, nei_n C (by omega) c1 a ha b hb, lc]
    rcases (show H (8 * i + j) = 0 ∨ H (8 * i + j) = 1 ∨ H (8 * i + j) = 2 by omega) with h | h | h
    · rw [h]; rfl
    · rw [h]
      by_cases e2 : beN C a b = true
      · simp [e2]; rfl
      · simp [e2]; rfl
    · rw [h]
      by_cases e2 : beN C a b = true
      · simp [e2]; rfl
      · simp [e2]; rfl
theorem wb_le (i a j b : Nat) : wbN C r T H i a j b ≤ 3 := by
  unfold wbN
  split
  · omega
  · split
    · omega
    · split <;> omega
/-- the lower of two that are not nothing -/
def cmb (z w : Nat) : Nat := if w = 0 then z else if z = 0 then w else if z ≤ w then z else w
def mv (z : Nat) : Int32 := if z = 0 then -6 else nI z
theorem cmb_le {z w : Nat} (h : z ≤ 3) (h2 : w ≤ 3) : cmb z w ≤ 3 := by
  unfold cmb
  split
  · exact h
  · split
    · exact h2
    · split
      · exact h
      · exact h2
theorem cmb_m {α : Type} (K : Int32 → α) : ∀ {z w : Nat}, z ≤ 3 → w ≤ 3 → (if mv w < 0 then K (mv z) else if mv z < 0 then K (mv w) else if mv z ≤ mv w then K (mv z) else K (mv w)) = K (mv (cmb z w)) := by
  intro z w hz hw
  rcases (show z = 0 ∨ z = 1 ∨ z = 2 ∨ z = 3 by omega) with rfl | rfl | rfl | rfl <;>
  rcases (show w = 0 ∨ w = 1 ∨ w = 2 ∨ w = 3 by omega) with rfl | rfl | rfl | rfl <;> rfl
theorem cmb_c {α : Type} (K : Int32 → α) : ∀ {z w : Nat}, z ≤ 3 → w ≤ 3 → (if nI w = 0 then K (nI z) else if nI z = 0 then K (nI w) else if nI z ≤ nI w then K (nI z) else K (nI w)) = K (nI (cmb z w)) := by
  intro z w hz hw
  rcases (show z = 0 ∨ z = 1 ∨ z = 2 ∨ z = 3 by omega) with rfl | rfl | rfl | rfl <;>
  rcases (show w = 0 ∨ w = 1 ∨ w = 2 ∨ w = 3 by omega) with rfl | rfl | rfl | rfl <;> rfl
theorem mw_n (c1 : 1 ≤ C) (c2 : C ≤ 4) (hr : r ≤ 50) (hT : ∀ k, k < 8 → T k ≤ 250 ∧ talls k = nI (T k) ∧ mtall k = nI (T k)) (hH : ∀ k, k < 64 → H k ≤ 2 ∧ pairs k = nI (H k) ∧ mpairs k = nI (H k)) {at' : Nat → Int32} {i a j b : Nat} (hi : i < 8) (hj : j < 8) (ha : a < 8) (hb : b < 8) (h1 : at' i = nI a) (h2 : at' j = nI b) (K : Int32 → Option Int32) :
    (bd (ld mpairs 64 (((8 : Int32) * nI i) + nI j)) fun v7 =>
    bd (f_X9_isHidden (nI C) (nI r) mtall at' (nI i) (nI j)) fun v8 =>
    lc K (fun k9 =>
    if v8 = 0 then
    lc (lc (k9 (-6 : Int32)) (fun k12 =>
    if v7 = (2 : Int32) then
    bd (f_X9_areBeside (nI C) at' (nI i) (nI j)) fun v13 =>
    if v13 = 0 then
    k9 (3 : Int32)
    else
    k12
    else
    k12)) (fun k10 =>
    if v7 = (1 : Int32) then
    bd (f_X9_areBeside (nI C) at' (nI i) (nI j)) fun v11 =>
    if v11 = 0 then
    k10
    else
    k9 (2 : Int32)
    else
    k10)
    else
    k9 (1 : Int32))) = K (mv (wbN C r T H i a j b)) := by
  obtain ⟨q1, q2, q3⟩ := hH (8 * i + j) (by omega)
  have a1 : (8 : Int32) * nI i + nI j = nI (8 * i + j) := by rw [l_8, pk_mul, nI_add]
  simp only [lc, a1, ld_n (show 8 * i + j < 64 by omega) (show 64 < 2 ^ 31 by omega), bd_some, mhid_n c1 c2 hr hT hi hj ha hb h1 h2, mbes_n c1 c2 hi hj ha hb h1 h2, q3]
  unfold wbN
  by_cases e : hidN C r T i a j b = true
  · simp only [if_pos e, one_ne, ↓reduceIte]
    rfl
  · simp only [if_neg e, ↓reduceIte]
    rcases (show H (8 * i + j) = 0 ∨ H (8 * i + j) = 1 ∨ H (8 * i + j) = 2 by omega) with h | h | h
    · rw [h]; rfl
    · rw [h]
      by_cases e2 : beN C a b = true
      · simp [e2]; rfl
      · simp [e2]; rfl
    · rw [h]
      by_cases e2 : beN C a b = true
      · simp [e2]; rfl
      · simp [e2]; rfl
theorem wf_n (c1 : 1 ≤ C) (c2 : C ≤ 4) (hr : r ≤ 50) (hT : ∀ k, k < 8 → T k ≤ 250 ∧ talls k = nI (T k) ∧ mtall k = nI (T k)) (hH : ∀ k, k < 64 → H k ≤ 2 ∧ pairs k = nI (H k) ∧ mpairs k = nI (H k)) {ar at' : Nat → Int32} {A : Nat → Nat} {n N i : Nat} (hn : n ≤ 8) (hA : ∀ k, k < n → A k < 8 ∧ ar k = nI (A k) ∧ at' k = nI (A k)) (hi : i < n) (hN : 20 < N) :
    ∃ v, v ≤ 3 ∧ f_X7_wrongFor N (nI C) (nI r) talls pairs ar (nI i) (nI n) = some (nI v) ∧ f_X9_wrongWith N (nI n) (nI C) (nI r) mtall mpairs at' (nI i) = some (mv v) := by
  unfold f_X7_wrongFor f_X9_wrongWith
  rw [lc, lc]
  refine lpI (fun f j (z : Nat) => (f_X7_wrongFor_L6 (nI C) (nI r) talls pairs ar (nI i) (nI n) (fun z5 => some z5) f (nI z) (nI j), f_X9_wrongWith_L5 (nI n) (nI C) (nI r) mtall mpairs at' (nI i) (fun z5 => some z5) f (mv z) (nI j))) n (fun _ z => z ≤ 3) (fun z => ∃ v, v ≤ 3 ∧ z.1 = some (nI v) ∧ z.2 = some (mv v)) ?_ ?_ N 0 0 (by omega) (by omega) (by omega)
  · intro f j z hj hz ih
    dsimp only at ih ⊢
    obtain ⟨b1, b2, b3⟩ := hA j hj
    obtain ⟨a1, a2, a3⟩ := hA i hi
    rw [f_X7_wrongFor_L6, f_X9_wrongWith_L5, if_neg (nI_ge hj (by omega)), if_neg (nI_ge hj (by omega)), if_neg (show ¬ (8 : Int32) ≤ nI j from nI_ge (b := 8) (by omega) (by omega)), nI_1]
    by_cases e : j = i
    · subst e
      simp only [lc, if_pos]
      exact ih z hz
    · have hne : ¬ nI j = nI i := nI_nei e (by omega) (by omega)
      have hw := wb_le (C := C) (r := r) (T := T) (H := H) i (A i) j (A j)
      rw [lc, lc]
      simp only [if_neg hne]
      rw [mw_n c1 c2 hr hT hH (show i < 8 by omega) (show j < 8 by omega) a1 b1 a3 b3]
      simp only [lc, ld_n (show i < 8 by omega) (show 8 < 2 ^ 31 by omega), ld_n (show j < 8 by omega) (show 8 < 2 ^ 31 by omega), bd_some, a2, b2, wb_n c1 c2 hr hT hH (show i < 8 by omega) (show j < 8 by omega) a1 b1]
      rw [cmb_m (fun x => f_X9_wrongWith_L5 (nI n) (nI C) (nI r) mtall mpairs at' (nI i) (fun z5 => some z5) f x (nI (j + 1))) hz hw, cmb_c (fun x => f_X7_wrongFor_L6 (nI C) (nI r) talls pairs ar (nI i) (nI n) (fun z5 => some z5) f x (nI (j + 1))) hz hw]
      exact ih _ (cmb_le hz hw)
  · intro f z hz
    dsimp only
    rw [f_X7_wrongFor_L6, f_X9_wrongWith_L5, if_pos (Int32.le_refl _), if_pos (Int32.le_refl _)]
    exact ⟨z, hz, rfl, rfl⟩
end St
theorem mv_neg {z : Nat} (h : z ≤ 3) : (mv z < 0) ↔ z = 0 := by
  rcases (show z = 0 ∨ z = 1 ∨ z = 2 ∨ z = 3 by omega) with rfl | rfl | rfl | rfl <;> decide
theorem st_pick {R C : Nat} {rows columns rise mrows mcolumns mrise : Int32} {talls pairs mtall mpairs : Nat → Int32} (hst : R_st R C rows columns rise talls pairs mrows mcolumns mrise mtall mpairs) : ∃ (r : Nat) (T H : Nat → Nat), r ≤ 50 ∧ rise = nI r ∧ mrise = nI r ∧ (∀ k, k < 8 → T k ≤ 250 ∧ talls k = nI (T k) ∧ mtall k = nI (T k)) ∧ (∀ k, k < 64 → H k ≤ 2 ∧ pairs k = nI (H k) ∧ mpairs k = nI (H k)) ∧ ∀ a b, a < 8 → b < 8 → H (8 * a + b) = H (8 * b + a) := by
  obtain ⟨h1, h2, ⟨rfl, r, hr, hr2⟩, ht, hp, hsym⟩ := hst
  obtain ⟨T, hT⟩ := pick ht
  obtain ⟨H, hH⟩ := pick hp
  refine ⟨r, T, H, hr, hr2, hr2, hT, hH, fun a b ha hb => ?_⟩
  have := hsym a b ha hb
  obtain ⟨u1, u2, u3⟩ := hH (8 * a + b) (by omega)
  obtain ⟨v1, v2, v3⟩ := hH (8 * b + a) (by omega)
  rw [u3, v3, nI_eq (by omega) (by omega)] at this
  exact this
theorem readStand {S : Nat → Int32} {n N : Nat} {ar : Nat → Int32} {A : Nat → Nat} (hn : n ≤ 8) (hN : 20 < N) (hA : ∀ k, k < n → S k - 48 = nI (A k)) :
    ∃ ar', f_X3_readStanding N S (nI n) ar (nI n) = some ar' ∧ ∀ k, k < n → ar' k = nI (A k) := by
  unfold f_X3_readStanding
  rw [lc]
  refine lpI (fun f i (z : Nat → Int32) => f_X3_readStanding_L2 S (nI n) (nI n) (fun ar_5 => some ar_5) f (nI i) z) n (fun i z => ∀ k, k < i → z k = nI (A k)) (fun z => ∃ ar', z = some ar' ∧ ∀ k, k < n → ar' k = nI (A k)) ?_ ?_ N 0 ar (by omega) (by omega) (fun k h => by omega)
  · intro f i z hi hI ih
    try dsimp only at ih ⊢
    rw [f_X3_readStanding_L2, if_neg (nI_ge hi (by omega)), if_neg (show ¬ (8 : Int32) ≤ nI i from nI_ge (b := 8) (by omega) (by omega)), signAt_n (by omega) hi, bd_some, hA i hi, sti_n (by omega) (by omega), bd_some, nI_1]
    refine ih _ (fun k hk => ?_)
    by_cases e : k = i
    · subst e; exact upd_s
    · rw [upd_n e]; exact hI k (by omega)
  · intro f z hI
    try dsimp only
    rw [f_X3_readStanding_L2, if_pos (Int32.le_refl _)]
    exact ⟨z, rfl, hI⟩
theorem pu_judge {S M : Nat → Int32} {Co K : Int32} (hpad : R_pad S Co M K) {n c : Nat} {people bride count hands mpeople mshots mbride mhands : Int32} {looks bits mlooks : Nat → Int32} (hsh : R_sh n c people bride count hands looks bits mpeople mshots mlooks mbride mhands) {R C : Nat} {rows columns rise mrows mcolumns mrise : Int32} {talls pairs mtall mpairs : Nat → Int32} (hst : R_st R C rows columns rise talls pairs mrows mcolumns mrise mtall mpairs) (ar mat : Nat → Int32) (p1 : Int32) :
    ∃ N r ar' mat', f_X8_judge N ar S Co people rows columns rise talls pairs p1 = some (r, ar') ∧ f_X9_judge N mpeople mrows mcolumns mrise mtall mpairs M K mat p1 = some (r, mat') := by
  obtain ⟨r, T, H, hr, rfl, rfl, hT, hH, -⟩ := st_pick hst
  obtain ⟨k, hk, rfl, rfl, hs, hv⟩ := hpad
  obtain ⟨⟨n1, n2, n3⟩, ⟨rfl, rfl, rfl, rfl⟩, -⟩ := hsh
  obtain ⟨⟨r1, r2, r3, r4, r5⟩, ⟨rfl, rfl, rfl, rfl⟩, -⟩ := hst
  have r6 : 1 ≤ R * C := Nat.mul_pos r1 r3
  refine ⟨100, ?_⟩
  unfold f_X8_judge f_X9_judge
  rw [within_eq, in_eq2 (a := 0) (b := 1) (by decide) (by decide)]
  simp only [bd_some]
  by_cases e : (0 : Int32) ≤ p1 ∧ p1 ≤ 1
  · simp only [if_pos e, one_ne, ↓reduceIte]
    obtain ⟨v, f1, f2, f3⟩ := pu_faultStand (N := 100) hk n2 hs r5 r6 (by omega)
    rw [f1, f2]
    simp only [bd_some]
    rcases f3 with ⟨rfl, rfl, hA⟩ | ⟨j, j1, rfl⟩
    · rw [if_pos rfl, if_pos m6_lt0]
      obtain ⟨A, hA'⟩ := pick hA
      obtain ⟨ar', g1, g2⟩ := readStand (ar := ar) (N := 100) n2 (by omega) (fun i hi => (by rw [hs i hi]; exact (hA' i hi).2) : ∀ i, i < k → S i - 48 = nI (A i))
      rw [g1, bd_some, lc]
      refine lpI (fun f i (z : Nat → Int32) => f_X9_judge_L25 (nI k) M (fun (mo_at_7 : Nat → Int32) => lc (some ((-6 : Int32), mo_at_7)) (fun k12 => f_X9_judge_L56 (nI k) (nI C) (nI r) mtall mpairs p1 mo_at_7 100 k12 100 (0 : Int32))) f (nI i) z) k (fun i z => ∀ j, j < i → z j = nI (A j)) (fun z => ∃ q ar'' mat', (bd (f_X7_firstWrong 100 (nI C) (nI r) talls pairs ar' (nI k)) fun v4 => if v4 = (-6 : Int32) then some (v4, ar') else if p1 = 0 then some (v4, ar') else bd (f_X7_wrongFor 100 (nI C) (nI r) talls pairs ar' v4 (nI k)) fun v5 => some (v5, ar')) = some (q, ar'') ∧ z = some (q, mat')) ?_ ?_ 100 0 mat (by omega) (by omega) (fun j h => by omega)
      · intro f i z hi hI ih
        try dsimp only at ih ⊢
        rw [f_X9_judge_L25, if_neg (nI_ge hi (by omega)), ld_n (by omega) (by omega), bd_some, (hA' i hi).2, sti_n (by omega) (by omega), bd_some, nI_1]
        refine ih _ (fun j hj => ?_)
        by_cases e : j = i
        · subst e; exact upd_s
        · rw [upd_n e]; exact hI j (by omega)
      · intro f z hI
        try dsimp only
        rw [f_X9_judge_L25, if_pos (Int32.le_refl _), lc]
        have hAA : ∀ i, i < k → A i < 8 ∧ ar' i = nI (A i) ∧ z i = nI (A i) := fun i hi => ⟨by have := (hA' i hi).1; omega, g2 i hi, hI i hi⟩
        unfold f_X7_firstWrong
        rw [lc]
        refine lpI (fun f i (_ : Unit) => (f_X7_firstWrong_L2 (nI C) (nI r) talls pairs ar' (nI k) 100 (some (-6)) f (nI i), f_X9_judge_L56 (nI k) (nI C) (nI r) mtall mpairs p1 z 100 (some (-6, z)) f (nI i))) k (fun _ _ => True) (fun w => ∃ q ar'' mat', (bd w.1 fun v4 => if v4 = (-6 : Int32) then some (v4, ar') else if p1 = 0 then some (v4, ar') else bd (f_X7_wrongFor 100 (nI C) (nI r) talls pairs ar' v4 (nI k)) fun v5 => some (v5, ar')) = some (q, ar'') ∧ w.2 = some (q, mat')) ?_ ?_ 100 0 () (by omega) (by omega) trivial
        · intro f i _ hi _ ih
          dsimp only at ih ⊢
          obtain ⟨v, w1, w2, w3⟩ := wf_n (N := 100) r3 r4 hr hT hH n2 hAA hi (by omega)
          rw [f_X7_firstWrong_L2, f_X9_judge_L56, if_neg (nI_ge hi (by omega)), if_neg (nI_ge hi (by omega)), w2, w3, bd_some, bd_some, nI_1]
          have hv0 : (nI v = 0) ↔ v = 0 := nI_eq (b := 0) (by omega) (by omega)
          simp only [mv_neg w1, hv0]
          by_cases e0 : v = 0
          · simp only [if_pos e0]
            exact ih () trivial
          · simp only [if_neg e0, bd_some, if_neg (nI_m6 (show i < 2 ^ 31 by omega)), w2]
            by_cases ep : p1 = 0
            · simp only [if_pos ep]
              exact ⟨_, _, _, rfl, rfl⟩
            · simp only [if_neg ep]
              refine ⟨_, _, z, rfl, ?_⟩
              unfold mv
              rw [if_neg e0]
        · intro f _ _
          dsimp only
          rw [f_X7_firstWrong_L2, f_X9_judge_L56, if_pos (Int32.le_refl _), if_pos (Int32.le_refl _), bd_some, if_pos rfl]
          exact ⟨_, _, _, rfl, rfl⟩
    · rw [if_neg (nI_m6 (by omega)), if_neg (nI_pos (by omega))]
      exact ⟨_, _, _, rfl, rfl⟩
  · simp only [if_neg e, ↓reduceIte]
    exact ⟨_, _, _, rfl, rfl⟩
