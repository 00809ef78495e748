/-! what ties the class's contents to the reference's -/
def R_pad (S : Nat → Int32) (C : Int32) (M : Nat → Int32) (K : Int32) : Prop := ∃ c, c ≤ 40 ∧ C = nI c ∧ K = nI c ∧ (∀ i, i < c → S i = M i) ∧ ∀ i, i < c → ∃ v, 33 ≤ v ∧ v ≤ 126 ∧ M i = nI v
/-- n people, c shots -/
def R_sh (n c : Nat) (people bride count hands : Int32) (looks bits : Nat → Int32) (mpeople mshots : Int32) (mlooks : Nat → Int32) (mbride mhands : Int32) : Prop :=
  (1 ≤ n ∧ n ≤ 8 ∧ c ≤ 10) ∧ (people = nI n ∧ mpeople = nI n ∧ count = nI c ∧ mshots = nI c) ∧ (∀ s k, s < c → k < n → looks (8 * s + k) = mlooks (8 * s + k)) ∧ (∀ s, s < c → ∃ b, b < 2 ^ n ∧ bits s = nI b ∧ ∀ k, k < n → b.testBit k = decide (mlooks (8 * s + k) = 111)) ∧ (mbride = bride ∧ (bride = -6 ∨ ∃ b, b < n ∧ bride = nI b)) ∧ mhands = hands ∧ ∃ h, h < 2 ^ (n - 1) ∧ hands = nI h
def R_bl (flash : Int32) (set : Nat → Int32) (mperiod mshut mphase : Nat → Int32) (mflash : Int32) : Prop :=
  mflash = flash ∧ (flash = -1 ∨ ∃ f, f ≤ 999 ∧ flash = nI f) ∧ ∀ k, k < 8 → ∃ P S F, 1 ≤ P ∧ P ≤ 60 ∧ S ≤ P ∧ F ≤ 59 ∧ set (3 * k) = nI P ∧ set (3 * k + 1) = nI S ∧ set (3 * k + 2) = nI F ∧ mperiod k = nI P ∧ mshut k = nI S ∧ mphase k = nI F
def R_od (tired : Int32) (quarters : Nat → Int32) (mquarters : Nat → Int32) (mtired : Int32) : Prop :=
  mtired = tired ∧ (∃ t, t ≤ 20 ∧ tired = nI t) ∧ ∀ k, k < 8 → ∃ q, q ≤ 4 ∧ quarters k = nI q ∧ mquarters k = nI q
/-- a stair of R rows, C columns -/
def R_st (R C : Nat) (rows columns rise : Int32) (talls pairs : Nat → Int32) (mrows mcolumns mrise : Int32) (mtall mpairs : Nat → Int32) : Prop :=
  (1 ≤ R ∧ R ≤ 3 ∧ 1 ≤ C ∧ C ≤ 4 ∧ R * C ≤ 8) ∧ (rows = nI R ∧ mrows = nI R ∧ columns = nI C ∧ mcolumns = nI C) ∧ (mrise = rise ∧ ∃ r, r ≤ 50 ∧ rise = nI r) ∧ (∀ k, k < 8 → ∃ t, t ≤ 250 ∧ talls k = nI t ∧ mtall k = nI t) ∧ (∀ k, k < 64 → ∃ h, h ≤ 2 ∧ pairs k = nI h ∧ mpairs k = nI h) ∧ ∀ a b, a < 8 → b < 8 → mpairs (8 * a + b) = mpairs (8 * b + a)
