/-- a whole scene -/
def R_scn (n c R C : Nat) (people bride count hands : Int32) (looks bits : Nat → Int32) (flash : Int32) (set : Nat → Int32) (tired : Int32) (Q : Nat → Int32) (rows columns rise : Int32) (talls pairs : Nat → Int32) (mpeople mshots : Int32) (mlooks : Nat → Int32) (mbride mhands : Int32) (mper mshut mpha : Nat → Int32) (mflash : Int32) (mQ : Nat → Int32) (mtired mrows mcolumns mrise : Int32) (mtall mpairs : Nat → Int32) : Prop :=
  R_sh n c people bride count hands looks bits mpeople mshots mlooks mbride mhands ∧ R_bl flash set mper mshut mpha mflash ∧ R_od tired Q mQ mtired ∧ R_st R C rows columns rise talls pairs mrows mcolumns mrise mtall mpairs
theorem scn_congr {n c R C : Nat} {people bride count hands : Int32} {looks bits : Nat → Int32} {flash : Int32} {set : Nat → Int32} {tired : Int32} {Q : Nat → Int32} {rows columns rise : Int32} {talls pairs : Nat → Int32} {mpeople mshots : Int32} {mlooks : Nat → Int32} {mbride mhands : Int32} {mper mshut mpha : Nat → Int32} {mflash : Int32} {mQ : Nat → Int32} {mtired mrows mcolumns mrise : Int32} {mtall mpairs : Nat → Int32}
    (h : R_scn n c R C people bride count hands looks bits flash set tired Q rows columns rise talls pairs mpeople mshots mlooks mbride mhands mper mshut mpha mflash mQ mtired mrows mcolumns mrise mtall mpairs)
    {looks' bits' set' Q' talls' pairs' mlooks' mper' mshut' mpha' mQ' mtall' mpairs' : Nat → Int32}
    (h1 : ∀ j, j < 80 → looks' j = looks j) (h2 : ∀ j, j < 10 → bits' j = bits j) (h3 : ∀ j, j < 24 → set' j = set j) (h4 : ∀ j, j < 8 → Q' j = Q j) (h5 : ∀ j, j < 8 → talls' j = talls j) (h6 : ∀ j, j < 64 → pairs' j = pairs j)
    (g1 : ∀ j, j < 80 → mlooks' j = mlooks j) (g2 : ∀ j, j < 8 → mper' j = mper j) (g3 : ∀ j, j < 8 → mshut' j = mshut j) (g4 : ∀ j, j < 8 → mpha' j = mpha j) (g5 : ∀ j, j < 8 → mQ' j = mQ j) (g6 : ∀ j, j < 8 → mtall' j = mtall j) (g7 : ∀ j, j < 64 → mpairs' j = mpairs j) :
    R_scn n c R C people bride count hands looks' bits' flash set' tired Q' rows columns rise talls' pairs' mpeople mshots mlooks' mbride mhands mper' mshut' mpha' mflash mQ' mtired mrows mcolumns mrise mtall' mpairs' := by
  obtain ⟨⟨⟨n1, n2, n3⟩, a2, a3, a4, a5, a6⟩, ⟨b1, b2, b3⟩, ⟨c1, c2, c3⟩, d1, d2, d3, d4, d5, d6⟩ := h
  refine ⟨⟨⟨n1, n2, n3⟩, a2, fun s k hs hk => ?_, fun s hs => ?_, a5, a6⟩, ⟨b1, b2, fun k hk => ?_⟩, ⟨c1, c2, fun k hk => ?_⟩, d1, d2, d3, fun k hk => ?_, fun k hk => ?_, fun a b ha hb => ?_⟩
  · rw [h1 _ (by omega), g1 _ (by omega)]; exact a3 s k hs hk
  · obtain ⟨b, e1, e2, e3⟩ := a4 s hs
    exact ⟨b, e1, by rw [h2 _ (by omega)]; exact e2, fun k hk => by rw [g1 _ (by omega)]; exact e3 k hk⟩
  · rw [h3 _ (by omega), h3 _ (by omega), h3 _ (by omega), g2 k hk, g3 k hk, g4 k hk]; exact b3 k hk
  · rw [h4 k hk, g5 k hk]; exact c3 k hk
  · rw [h5 k hk, g6 k hk]; exact d4 k hk
  · rw [h6 k hk, g7 k hk]; exact d5 k hk
  · rw [g7 _ (by omega), g7 _ (by omega)]; exact d6 a b ha hb
/-- a kept scene -/
def R_keep (K : Nat → Int32) (b : Nat) (people bride count hands : Int32) (looks bits : Nat → Int32) (flash : Int32) (set : Nat → Int32) (tired : Int32) (Q : Nat → Int32) (rows columns rise : Int32) (talls pairs : Nat → Int32) : Prop :=
  ∃ n c R C, R_scn n c R C people bride count hands looks bits flash set tired Q rows columns rise talls pairs (K (b + 0)) (K (b + 1)) (fun j => K (b + (9 + j))) (K (b + 2)) (K (b + 3)) (fun k => K (b + (89 + 5 * k))) (fun k => K (b + (89 + 5 * k + 1))) (fun k => K (b + (89 + 5 * k + 2))) (K (b + 4)) (fun k => K (b + (89 + 5 * k + 3))) (K (b + 5)) (K (b + 6)) (K (b + 7)) (K (b + 8)) (fun k => K (b + (89 + 5 * k + 4))) (fun j => K (b + (129 + j)))
theorem keep_out {K K' : Nat → Int32} {b : Nat} {people bride count hands : Int32} {looks bits : Nat → Int32} {flash : Int32} {set : Nat → Int32} {tired : Int32} {Q : Nat → Int32} {rows columns rise : Int32} {talls pairs : Nat → Int32} (h : ∀ o, o < 193 → K' (b + o) = K (b + o)) (hk : R_keep K b people bride count hands looks bits flash set tired Q rows columns rise talls pairs) : R_keep K' b people bride count hands looks bits flash set tired Q rows columns rise talls pairs := by
  obtain ⟨n, c, R, C, hs⟩ := hk
  refine ⟨n, c, R, C, ?_⟩
  rw [h 0 (by omega), h 1 (by omega), h 2 (by omega), h 3 (by omega), h 4 (by omega), h 5 (by omega), h 6 (by omega), h 7 (by omega), h 8 (by omega)]
  exact scn_congr hs (fun _ _ => rfl) (fun _ _ => rfl) (fun _ _ => rfl) (fun _ _ => rfl) (fun _ _ => rfl) (fun _ _ => rfl) (fun j hj => h _ (by omega)) (fun j hj => h _ (by omega)) (fun j hj => h _ (by omega)) (fun j hj => h _ (by omega)) (fun j hj => h _ (by omega)) (fun j hj => h _ (by omega)) (fun j hj => h _ (by omega))
def scD (a0 a1 a2 a3 a4 a5 a6 a7 a8 : Int32) (L pe su ph q t pa : Nat → Int32) (o : Nat) : Int32 :=
  if o = 0 then a0 else if o = 1 then a1 else if o = 2 then a2 else if o = 3 then a3 else if o = 4 then a4 else if o = 5 then a5 else if o = 6 then a6 else if o = 7 then a7 else if o = 8 then a8 else if o < 89 then L (o - 9) else if o < 129 then (if (o - 89) % 5 = 0 then pe ((o - 89) / 5) else if (o - 89) % 5 = 1 then su ((o - 89) / 5) else if (o - 89) % 5 = 2 then ph ((o - 89) / 5) else if (o - 89) % 5 = 3 then q ((o - 89) / 5) else t ((o - 89) / 5)) else pa (o - 129)
section D
variable {a0 a1 a2 a3 a4 a5 a6 a7 a8 : Int32} {L pe su ph q t pa : Nat → Int32}
theorem scD_L {j : Nat} (h : j < 80) : scD a0 a1 a2 a3 a4 a5 a6 a7 a8 L pe su ph q t pa (9 + j) = L j := by
  unfold scD
  rw [if_neg (by omega), if_neg (by omega), if_neg (by omega), if_neg (by omega), if_neg (by omega), if_neg (by omega), if_neg (by omega), if_neg (by omega), if_neg (by omega), if_pos (by omega), show 9 + j - 9 = j by omega]
theorem scD_pa {j : Nat} (h : j < 64) : scD a0 a1 a2 a3 a4 a5 a6 a7 a8 L pe su ph q t pa (129 + j) = pa j := by
  unfold scD
  rw [if_neg (by omega), if_neg (by omega), if_neg (by omega), if_neg (by omega), if_neg (by omega), if_neg (by omega), if_neg (by omega), if_neg (by omega), if_neg (by omega), if_neg (by omega), if_neg (by omega), show 129 + j - 129 = j by omega]
theorem scD_5 {k e : Nat} (h : k < 8) (he : e < 5) : scD a0 a1 a2 a3 a4 a5 a6 a7 a8 L pe su ph q t pa (89 + 5 * k + e) = (if e = 0 then pe k else if e = 1 then su k else if e = 2 then ph k else if e = 3 then q k else t k) := by
  unfold scD
  rw [if_neg (by omega), if_neg (by omega), if_neg (by omega), if_neg (by omega), if_neg (by omega), if_neg (by omega), if_neg (by omega), if_neg (by omega), if_neg (by omega), if_neg (by omega), if_pos (by omega), show (89 + 5 * k + e - 89) % 5 = e by omega, show (89 + 5 * k + e - 89) / 5 = k by omega]
end D
/-- the reference's image i -/
theorem mimage_n {n c R C : Nat} {people bride count hands : Int32} {looks bits : Nat → Int32} {flash : Int32} {set : Nat → Int32} {tired : Int32} {Q : Nat → Int32} {rows columns rise : Int32} {talls pairs : Nat → Int32} {mpeople mshots : Int32} {mlooks : Nat → Int32} {mbride mhands : Int32} {mper mshut mpha : Nat → Int32} {mflash : Int32} {mQ : Nat → Int32} {mtired mrows mcolumns mrise : Int32} {mtall mpairs : Nat → Int32}
    (h : R_scn n c R C people bride count hands looks bits flash set tired Q rows columns rise talls pairs mpeople mshots mlooks mbride mhands mper mshut mpha mflash mQ mtired mrows mcolumns mrise mtall mpairs) (K isK : Nat → Int32) (ka kw : Int32) {i : Nat} (hi : i < 2) (looks2 bits2 set2 Q2 talls2 pairs2 : Nat → Int32) :
    ∃ N mlooks' mper' mshut' mpha' mQ' mtall' mpairs' K' isK' ka', f_X9_image N mpeople mshots mlooks mbride mhands mper mshut mpha mflash mQ mtired mrows mcolumns mrise mtall mpairs K isK ka kw (nI i) = some (1, mpeople, mshots, mbride, mhands, mflash, mtired, mrows, mcolumns, mrise, ka', 1, mlooks', mper', mshut', mpha', mQ', mtall', mpairs', K', isK') ∧ isK' = upd isK i 1 ∧ (∀ p, p < 240 * i ∨ 240 * i + 193 ≤ p → K' p = K p) ∧ R_scn n c R C people bride count hands looks bits flash set tired Q rows columns rise talls pairs mpeople mshots mlooks' mbride mhands mper' mshut' mpha' mflash mQ' mtired mrows mcolumns mrise mtall' mpairs' ∧ mtall' = mtall ∧ mpairs' = mpairs ∧ R_keep K' (240 * i) people bride count hands (va_cpy looks looks2 0 0 80) (va_cpy bits bits2 0 0 10) flash (va_cpy set set2 0 0 24) tired (va_cpy Q Q2 0 0 8) rows columns rise (va_cpy talls talls2 0 0 8) (va_cpy pairs pairs2 0 0 64) := by
  have e1 : (1 : Int32) ≠ 0 := by decide
  obtain ⟨L', pe', su', ph', q', t', pa', z1, z2, z3, z4, z5, z6⟩ := passAll_n (N := 101) (b := 240 * i) (w := 1) (K := K) (Y := scD mpeople mshots mbride mhands mflash mtired mrows mcolumns mrise mlooks mper mshut mpha mQ mtall mpairs) (a0 := mpeople) (a1 := mshots) (a2 := mbride) (a3 := mhands) (a4 := mflash) (a5 := mtired) (a6 := mrows) (a7 := mcolumns) (a8 := mrise) (L := mlooks) (pe := mper) (su := mshut) (ph := mpha) (q := mQ) (t := mtall) (pa := mpairs) (by omega) (by omega) rfl rfl rfl rfl rfl rfl rfl rfl rfl (fun j hj => by rw [if_neg e1]; exact scD_L hj) (fun k hk => by rw [if_neg e1]; exact scD_5 (e := 0) hk (by omega)) (fun k hk => by rw [if_neg e1]; exact scD_5 (e := 1) hk (by omega)) (fun k hk => by rw [if_neg e1]; exact scD_5 (e := 2) hk (by omega)) (fun k hk => by rw [if_neg e1]; exact scD_5 (e := 3) hk (by omega)) (fun k hk => by rw [if_neg e1]; exact scD_5 (e := 4) hk (by omega)) (fun j hj => by rw [if_neg e1]; exact scD_pa hj)
  have y1 : ∀ j, j < 80 → L' j = mlooks j := fun j hj => (z2 j hj).trans (scD_L hj)
  have y2 : ∀ j, j < 8 → pe' j = mper j := fun j hj => (z3 j hj).1.trans (scD_5 (e := 0) hj (by omega))
  have y3 : ∀ j, j < 8 → su' j = mshut j := fun j hj => (z3 j hj).2.1.trans (scD_5 (e := 1) hj (by omega))
  have y4 : ∀ j, j < 8 → ph' j = mpha j := fun j hj => (z3 j hj).2.2.1.trans (scD_5 (e := 2) hj (by omega))
  have y5 : ∀ j, j < 8 → q' j = mQ j := fun j hj => (z3 j hj).2.2.2.1.trans (scD_5 (e := 3) hj (by omega))
  have y6 : ∀ j, j < 8 → t' j = mtall j := fun j hj => (z3 j hj).2.2.2.2.trans (scD_5 (e := 4) hj (by omega))
  have y7 : ∀ j, j < 64 → pa' j = mpairs j := fun j hj => (z4 j hj).trans (scD_pa hj)
  have cp : ∀ (f g : Nat → Int32) (m j : Nat), j < m → va_cpy f g 0 0 m j = f j := fun f g m j hj => by
    rw [pk_cpy_in (Nat.zero_le _) (by omega)]
    congr 1
    omega
  refine ⟨101, L', pe', su', ph', q', t', pa', fil (240 * i) 193 (scD mpeople mshots mbride mhands mflash mtired mrows mcolumns mrise mlooks mper mshut mpha mQ mtall mpairs) K, upd isK i 1, nI (240 * i + 193), ?_, rfl, fun p hp => fil_out hp, ?_, funext (fun j => if h : j < 8 then y6 j h else z5 j h), funext (fun j => if h : j < 64 then y7 j h else z6 j h), n, c, R, C, ?_⟩
  · unfold f_X9_image
    rw [in_eq2 (a := 0) (b := 1) (by decide) (by decide), bd_some, if_pos (show (0 : Int32) ≤ nI i ∧ nI i ≤ 1 from (rg_nI (a := 0) (b := 1) (by omega) (by omega) (by omega)).mpr (by omega)), if_neg e1, l_240, pk_mul, z1, bd_some, sti_n hi (by omega)]
    rfl
  · exact scn_congr h (fun _ _ => rfl) (fun _ _ => rfl) (fun _ _ => rfl) (fun _ _ => rfl) (fun _ _ => rfl) (fun _ _ => rfl) y1 y2 y3 y4 y5 y6 y7
  · rw [fil_in (by omega), fil_in (by omega), fil_in (by omega), fil_in (by omega), fil_in (by omega), fil_in (by omega), fil_in (by omega), fil_in (by omega), fil_in (by omega)]
    exact scn_congr h (fun j hj => cp _ _ _ _ hj) (fun j hj => cp _ _ _ _ hj) (fun j hj => cp _ _ _ _ hj) (fun j hj => cp _ _ _ _ hj) (fun j hj => cp _ _ _ _ hj) (fun j hj => cp _ _ _ _ hj) (fun j hj => by rw [fil_in (by omega)]; exact scD_L hj) (fun j hj => by rw [fil_in (by omega)]; exact scD_5 (e := 0) hj (by omega)) (fun j hj => by rw [fil_in (by omega)]; exact scD_5 (e := 1) hj (by omega)) (fun j hj => by rw [fil_in (by omega)]; exact scD_5 (e := 2) hj (by omega)) (fun j hj => by rw [fil_in (by omega)]; exact scD_5 (e := 3) hj (by omega)) (fun j hj => by rw [fil_in (by omega)]; exact scD_5 (e := 4) hj (by omega)) (fun j hj => by rw [fil_in (by omega)]; exact scD_pa hj)
/-- the reference's restore i, of a kept one -/
theorem mrestore_n {people bride count hands : Int32} {looks bits : Nat → Int32} {flash : Int32} {set : Nat → Int32} {tired : Int32} {Q : Nat → Int32} {rows columns rise : Int32} {talls pairs : Nat → Int32} {K isK : Nat → Int32} {i : Nat} (hi : i < 2) (hK : isK i = 1) (h : R_keep K (240 * i) people bride count hands looks bits flash set tired Q rows columns rise talls pairs)
    (mpeople mshots : Int32) (mlooks : Nat → Int32) (mbride mhands : Int32) (mper mshut mpha : Nat → Int32) (mflash : Int32) (mQ : Nat → Int32) (mtired mrows mcolumns mrise : Int32) (mtall mpairs : Nat → Int32) (ka kw : Int32) (looks2 bits2 set2 Q2 talls2 pairs2 : Nat → Int32) :
    ∃ N mpeople' mshots' mbride' mhands' mflash' mtired' mrows' mcolumns' mrise' ka' mlooks' mper' mshut' mpha' mQ' mtall' mpairs' K' n c R C, f_X9_restore N mpeople mshots mlooks mbride mhands mper mshut mpha mflash mQ mtired mrows mcolumns mrise mtall mpairs K isK ka kw (nI i) = some (1, mpeople', mshots', mbride', mhands', mflash', mtired', mrows', mcolumns', mrise', ka', 0, mlooks', mper', mshut', mpha', mQ', mtall', mpairs', K') ∧ (∀ p, K' p = K p) ∧ R_scn n c R C people bride count hands (va_cpy looks looks2 0 0 80) (va_cpy bits bits2 0 0 10) flash (va_cpy set set2 0 0 24) tired (va_cpy Q Q2 0 0 8) rows columns rise (va_cpy talls talls2 0 0 8) (va_cpy pairs pairs2 0 0 64) mpeople' mshots' mlooks' mbride' mhands' mper' mshut' mpha' mflash' mQ' mtired' mrows' mcolumns' mrise' mtall' mpairs' := by
  obtain ⟨n, c, R, C, h⟩ := h
  obtain ⟨L', pe', su', ph', q', t', pa', z1, z2, z3, z4, -, -⟩ := passAll_n (N := 101) (b := 240 * i) (w := 0) (K := K) (Y := fun o => K (240 * i + o)) (a0 := mpeople) (a1 := mshots) (a2 := mbride) (a3 := mhands) (a4 := mflash) (a5 := mtired) (a6 := mrows) (a7 := mcolumns) (a8 := mrise) (L := mlooks) (pe := mper) (su := mshut) (ph := mpha) (q := mQ) (t := mtall) (pa := mpairs) (by omega) (by omega) rfl rfl rfl rfl rfl rfl rfl rfl rfl (fun j hj => rfl) (fun k hk => rfl) (fun k hk => rfl) (fun k hk => rfl) (fun k hk => rfl) (fun k hk => rfl) (fun j hj => rfl)
  have cp : ∀ (f g : Nat → Int32) (m j : Nat), j < m → va_cpy f g 0 0 m j = f j := fun f g m j hj => by
    rw [pk_cpy_in (Nat.zero_le _) (by omega)]
    congr 1
    omega
  refine ⟨101, K (240 * i + 0), K (240 * i + 1), K (240 * i + 2), K (240 * i + 3), K (240 * i + 4), K (240 * i + 5), K (240 * i + 6), K (240 * i + 7), K (240 * i + 8), nI (240 * i + 193), L', pe', su', ph', q', t', pa', fil (240 * i) 193 (fun o => K (240 * i + o)) K, n, c, R, C, ?_, fun p => ?_, ?_⟩
  rotate_left 1
  · unfold fil
    split
    · rename_i hp
      show K (240 * i + (p - 240 * i)) = K p
      rw [show 240 * i + (p - 240 * i) = p by omega]
    · rfl
  · exact scn_congr h (fun j hj => cp _ _ _ _ hj) (fun j hj => cp _ _ _ _ hj) (fun j hj => cp _ _ _ _ hj) (fun j hj => cp _ _ _ _ hj) (fun j hj => cp _ _ _ _ hj) (fun j hj => cp _ _ _ _ hj) z2 (fun j hj => (z3 j hj).1) (fun j hj => (z3 j hj).2.1) (fun j hj => (z3 j hj).2.2.1) (fun j hj => (z3 j hj).2.2.2.1) (fun j hj => (z3 j hj).2.2.2.2) z4
  · unfold f_X9_restore
    rw [in_eq2 (a := 0) (b := 1) (by decide) (by decide), bd_some, if_pos (show (0 : Int32) ≤ nI i ∧ nI i ≤ 1 from (rg_nI (a := 0) (b := 1) (by omega) (by omega) (by omega)).mpr (by omega)), if_neg (show ¬ (1 : Int32) = 0 by decide), ld_n hi (by omega), bd_some, hK, if_neg (show ¬ (1 : Int32) = 0 by decide), l_240, pk_mul, z1, bd_some]
