theorem F_X9_in : CalF yX9_in cX9_in 6 (some .boolean) 3 := ⟨tw_795, tw_10, by decide +kernel⟩
set_option maxRecDepth 100000 in
set_option maxHeartbeats 4000000 in
theorem c_X9_in (l : Launch) (D : va_G) (cI cJ cZ cS : ClassId) (p1 : Int64) (p2 : Int64) (p3 : Int64) (r : Int32) (hf : f_X9_in p1 p2 p3 = some r) : RoC l D cI cJ cZ cS yX9_in cX9_in 6 (some .boolean) 0 0 [] [.long p1, .long p2, .long p3] (some (.int r)) := by
  refine ro_in_z (own := RX9) (by decide +kernel) rfl (Nat.le_of_ble_eq_true rfl) ?_
  intro p e s m args below meth c ls Q E hQ hP hl
  obtain ⟨hx, hb, hml, hown, hts, hK, hN, hAO⟩ := id E
  have hl : lv_has ls 6 [(0, .long p1), (2, .long p2), (4, .long p3)] := hl
  unfold f_X9_in at hf
  refine lv_lload_n (pc := 0) hx hb dX9_in_0 rfl (lv_at hl 0 rfl) ?_
  refine lv_lload_n (pc := 1) hx hb dX9_in_1 rfl (lv_at hl 1 rfl) ?_
  refine W.lcmp (pc := 2) hx hb dX9_in_2 ?_
  refine r_if_lt (pc := 3) (tgt := 17) hx hb dX9_in_3 (by decide) hf (fun hf => ?_) (fun hf => ?_)
  · refine lv_iconst (pc := 17) (v := (0 : Int32)) hx hb dX9_in_17 (by decide) ?_
    exact hQ _ _ _ dX9_in_18 rfl hf
  · refine lv_lload_n (pc := 6) hx hb dX9_in_6 rfl (lv_at hl 0 rfl) ?_
    refine lv_lload (pc := 7) hx hb dX9_in_7 (lv_at hl 2 rfl) ?_
    refine W.lcmp (pc := 9) hx hb dX9_in_9 ?_
    refine r_if_gt (pc := 10) (tgt := 17) hx hb dX9_in_10 (by decide) hf (fun hf => ?_) (fun hf => ?_)
    · refine lv_iconst (pc := 17) (v := (0 : Int32)) hx hb dX9_in_17 (by decide) ?_
      exact hQ _ _ _ dX9_in_18 rfl hf
    · refine lv_iconst (pc := 13) (v := (1 : Int32)) hx hb dX9_in_13 (by decide) ?_
      refine lv_goto (pc := 14) (tgt := 18) hx hb dX9_in_14 (by decide) ?_
      exact hQ _ _ _ dX9_in_18 rfl hf
theorem F_X9_ones : CalF yX9_ones cX9_ones 3 (some .int) 1 := ⟨tw_867, tw_10, by decide +kernel⟩
set_option maxRecDepth 100000 in
set_option maxHeartbeats 4000000 in
theorem c_X9_ones (l : Launch) (D : va_G) (cI cJ cZ cS : ClassId) (N : Nat) (p1 : Int32) (r : Int32) (hf : f_X9_ones N p1 = some r) : RoC l D cI cJ cZ cS yX9_ones cX9_ones 3 (some .int) 0 0 [] [.int p1] (some (.int r)) := by
  refine ro_in_i (own := RX9) (by decide +kernel) rfl (Nat.le_of_ble_eq_true rfl) ?_
  intro p e s m args below meth c ls Q E hQ hP hl
  obtain ⟨hx, hb, hml, hown, hts, hK, hN, hAO⟩ := id E
  have hl : lv_has ls 3 [(0, .int p1)] := hl
  unfold f_X9_ones at hf
  refine lv_iconst (pc := 0) (v := (0 : Int32)) hx hb dX9_ones_0 (by decide) ?_
  refine lv_istore_n (pc := 1) (lv' := [(1, .int (0 : Int32)), (0, .int p1)]) hx hb dX9_ones_1 rfl hl (by decide) rfl (fun ls hl => ?_)
  refine lv_iload_n (pc := 2) hx hb dX9_ones_2 rfl (lv_at hl 1 rfl) ?_
  refine lv_istore_n (pc := 3) (lv' := [(2, .int p1), (1, .int (0 : Int32)), (0, .int p1)]) hx hb dX9_ones_3 rfl hl (by decide) rfl (fun ls hl => ?_)
  obtain ⟨k4, hk4, hf⟩ := lc1_e hf
  have K4 : ∀ (z5 : Int32) (ls : Array Slot), k4 z5 = some r → lv_has ls 3 [(1, .int z5)] → W p l e (roR 0 0) s m args below meth c s.heap [] 0 0 Q (F0 m 20 ls []) := by
    intro z5 ls hf hl
    rw [hk4] at hf
    refine lv_iload_n (pc := 20) hx hb dX9_ones_20 rfl (lv_at hl 0 rfl) ?_
    exact hQ _ _ _ dX9_ones_21 hf
  have L4 : ∀ (n : Nat), ∀ (y1 : Int32) (y2 : Int32) (ls : Array Slot), f_X9_ones_L4 k4 n y1 y2 = some r → lv_has ls 3 [(1, .int y1), (2, .int y2)] → W p l e (roR 0 0) s m args below meth c s.heap [] 0 0 Q (F0 m 4 ls []) := by
    intro n
    induction n with
    | zero =>
      intro y1 y2 ls hf
      rw [f_X9_ones_L4] at hf
      cases hf
    | succ n ih =>
      intro y1 y2 ls hf hl
      rw [f_X9_ones_L4] at hf
      refine lv_iload_n (pc := 4) hx hb dX9_ones_4 rfl (lv_at hl 1 rfl) ?_
      refine r_if_eq (pc := 5) (tgt := 20) hx hb dX9_ones_5 (by decide) hf (fun hf => ?_) (fun hf => ?_)
      · exact K4 _ _ hf (lv_sub hl [0] rfl)
      · refine lv_iinc (pc := 8) (v := (y1 + (1 : Int32))) (lv' := [(1, .int (y1 + (1 : Int32))), (2, .int y2)]) hx hb dX9_ones_8 hl (k := 0) rfl (by rfl) (by decide) rfl (fun ls hl => ?_)
        refine lv_iload_n (pc := 11) hx hb dX9_ones_11 rfl (lv_at hl 1 rfl) ?_
        refine lv_iload_n (pc := 12) hx hb dX9_ones_12 rfl (lv_at hl 1 rfl) ?_
        refine lv_iconst (pc := 13) (v := (1 : Int32)) hx hb dX9_ones_13 (by decide) ?_
        refine lv_isub (pc := 14) hx hb dX9_ones_14 ?_
        refine lv_iand (pc := 15) hx hb dX9_ones_15 ?_
        refine lv_istore_n (pc := 16) (lv' := [(2, .int (y2 &&& (y2 - (1 : Int32)))), (1, .int (y1 + (1 : Int32)))]) hx hb dX9_ones_16 rfl hl (by decide) rfl (fun ls hl => ?_)
        refine lv_goto (pc := 17) (tgt := 4) hx hb dX9_ones_17 (by decide) ?_
        exact ih _ _ _ hf (lv_sub hl [1, 0] rfl)
  exact L4 N _ _ _ hf (lv_sub hl [1, 0] rfl)
theorem F_X9_isLook : CalF yX9_isLook cX9_isLook 1 (some .boolean) 1 := ⟨tw_824, tw_10, by decide +kernel⟩
set_option maxRecDepth 100000 in
set_option maxHeartbeats 4000000 in
theorem c_X9_isLook (l : Launch) (D : va_G) (cI cJ cZ cS : ClassId) (p1 : Int32) (r : Int32) (hf : f_X9_isLook p1 = some r) : RoC l D cI cJ cZ cS yX9_isLook cX9_isLook 1 (some .boolean) 0 0 [] [.int p1] (some (.int r)) := by
  refine ro_in_z (own := RX9) (by decide +kernel) rfl (Nat.le_of_ble_eq_true rfl) ?_
  intro p e s m args below meth c ls Q E hQ hP hl
  obtain ⟨hx, hb, hml, hown, hts, hK, hN, hAO⟩ := id E
  have hl : lv_has ls 1 [(0, .int p1)] := hl
  unfold f_X9_isLook at hf
  refine lv_iload_n (pc := 0) hx hb dX9_isLook_0 rfl (lv_at hl 0 rfl) ?_
  refine lv_bipush (pc := 1) (v := (111 : Int32)) hx hb dX9_isLook_1 (by decide) ?_
  refine r_ic_eq (pc := 3) (tgt := 24) hx hb dX9_isLook_3 (by decide) hf (fun hf => ?_) (fun hf => ?_)
  · refine lv_iconst (pc := 24) (v := (1 : Int32)) hx hb dX9_isLook_24 (by decide) ?_
    refine lv_goto (pc := 25) (tgt := 29) hx hb dX9_isLook_25 (by decide) ?_
    exact hQ _ _ _ dX9_isLook_29 rfl hf
  · refine lv_iload_n (pc := 6) hx hb dX9_isLook_6 rfl (lv_at hl 0 rfl) ?_
    refine lv_bipush (pc := 7) (v := (115 : Int32)) hx hb dX9_isLook_7 (by decide) ?_
    refine r_ic_eq (pc := 9) (tgt := 24) hx hb dX9_isLook_9 (by decide) hf (fun hf => ?_) (fun hf => ?_)
    · refine lv_iconst (pc := 24) (v := (1 : Int32)) hx hb dX9_isLook_24 (by decide) ?_
      refine lv_goto (pc := 25) (tgt := 29) hx hb dX9_isLook_25 (by decide) ?_
      exact hQ _ _ _ dX9_isLook_29 rfl hf
    · refine lv_iload_n (pc := 12) hx hb dX9_isLook_12 rfl (lv_at hl 0 rfl) ?_
      refine lv_bipush (pc := 13) (v := (116 : Int32)) hx hb dX9_isLook_13 (by decide) ?_
      refine r_ic_eq (pc := 15) (tgt := 24) hx hb dX9_isLook_15 (by decide) hf (fun hf => ?_) (fun hf => ?_)
      · refine lv_iconst (pc := 24) (v := (1 : Int32)) hx hb dX9_isLook_24 (by decide) ?_
        refine lv_goto (pc := 25) (tgt := 29) hx hb dX9_isLook_25 (by decide) ?_
        exact hQ _ _ _ dX9_isLook_29 rfl hf
      · refine lv_iload_n (pc := 18) hx hb dX9_isLook_18 rfl (lv_at hl 0 rfl) ?_
        refine lv_bipush (pc := 19) (v := (104 : Int32)) hx hb dX9_isLook_19 (by decide) ?_
        refine r_ic_ne (pc := 21) (tgt := 28) hx hb dX9_isLook_21 (by decide) hf (fun hf => ?_) (fun hf => ?_)
        · refine lv_iconst (pc := 28) (v := (0 : Int32)) hx hb dX9_isLook_28 (by decide) ?_
          exact hQ _ _ _ dX9_isLook_29 rfl hf
        · refine lv_iconst (pc := 24) (v := (1 : Int32)) hx hb dX9_isLook_24 (by decide) ?_
          refine lv_goto (pc := 25) (tgt := 29) hx hb dX9_isLook_25 (by decide) ?_
          exact hQ _ _ _ dX9_isLook_29 rfl hf
theorem F_X9_begin : CalF yX9_begin cX9_begin 3 none 1 := ⟨tw_710, tw_10, by decide +kernel⟩
set_option maxRecDepth 100000 in
set_option maxHeartbeats 4000000 in
theorem c_X9_begin (l : Launch) (D : va_G) (cI cJ cZ cS : ClassId) (N : Nat) (mo_A mo_looks_A mo_period_A mo_shut_A mo_phase_A mo_quarters_A mo_tall_A mo_pairs_A mo_pad_A mo_cuts_A mo_at_A mo_first_A mo_kept_A mo_isKept_A : Nat) (mo_people : Int32) (mo_shots : Int32) (mo_looks : Nat → Int32) (mo_bride : Int32) (mo_hands : Int32) (mo_period : Nat → Int32) (mo_shut : Nat → Int32) (mo_phase : Nat → Int32) (mo_flash : Int32) (mo_quarters : Nat → Int32) (mo_tired : Int32) (mo_rows : Int32) (mo_columns : Int32) (mo_rise : Int32) (mo_tall : Nat → Int32) (mo_pairs : Nat → Int32) (mo_pad : Nat → Int32) (mo_padMany : Int32) (mo_cuts : Nat → Int32) (mo_at : Nat → Int32) (mo_first : Nat → Int32) (mo_kept : Nat → Int32) (mo_isKept : Nat → Int32) (mo_keptAt : Int32) (mo_isWriting : Int32) (p1 : Int32) (sz : Nat) (r_mo_people : Int32) (r_mo_shots : Int32) (r_mo_bride : Int32) (r_mo_hands : Int32) (r_mo_period : Nat → Int32) (r_mo_shut : Nat → Int32) (r_mo_phase : Nat → Int32) (r_mo_quarters : Nat → Int32) (r_mo_tall : Nat → Int32) (r_mo_pairs : Nat → Int32) (hf : f_X9_begin N mo_period mo_shut mo_phase mo_quarters mo_tall mo_pairs p1 = some (r_mo_people, r_mo_shots, r_mo_bride, r_mo_hands, r_mo_period, r_mo_shut, r_mo_phase, r_mo_quarters, r_mo_tall, r_mo_pairs)) : RwC l D cI cJ cZ cS yX9_begin cX9_begin 3 none 0 0 (w_X9 cI cJ cZ cS mo_A mo_looks_A mo_period_A mo_shut_A mo_phase_A mo_quarters_A mo_tall_A mo_pairs_A mo_pad_A mo_cuts_A mo_at_A mo_first_A mo_kept_A mo_isKept_A mo_people mo_shots mo_looks mo_bride mo_hands mo_period mo_shut mo_phase mo_flash mo_quarters mo_tired mo_rows mo_columns mo_rise mo_tall mo_pairs mo_pad mo_padMany mo_cuts mo_at mo_first mo_kept mo_isKept mo_keptAt mo_isWriting) sz [.ref mo_A, .int p1] none (w_X9 cI cJ cZ cS mo_A mo_looks_A mo_period_A mo_shut_A mo_phase_A mo_quarters_A mo_tall_A mo_pairs_A mo_pad_A mo_cuts_A mo_at_A mo_first_A mo_kept_A mo_isKept_A r_mo_people r_mo_shots mo_looks r_mo_bride r_mo_hands r_mo_period r_mo_shut r_mo_phase mo_flash r_mo_quarters mo_tired mo_rows mo_columns mo_rise r_mo_tall r_mo_pairs mo_pad mo_padMany mo_cuts mo_at mo_first mo_kept mo_isKept mo_keptAt mo_isWriting) := by
  refine rw_in_v (own := RX9) (by decide +kernel) rfl (Nat.le_of_ble_eq_true rfl) ?_
  intro p e s m args below meth c ls Q A E hA hQ hP hD hS hl
  obtain ⟨hx, hb, hml, hown, hts, hK, hN, hAO⟩ := id E
  have hl : lv_has ls 3 [(0, .ref mo_A), (1, .int p1)] := hl
  unfold f_X9_begin at hf
  obtain ⟨H, hH⟩ : ∃ H, H = s.heap := ⟨_, rfl⟩
  obtain ⟨locs, hlocs⟩ : ∃ L : List Loc, L = [] := ⟨_, rfl⟩
  rw [show W p l e (roR 0 0) s m args below meth c s.heap [] 0 0 Q (F0 m 0 ls []) = W p l e (roR 0 0) s m args below meth c H locs 0 0 Q (F0 m 0 ls []) by rw [hH, hlocs]]
  replace hS : va_S A s.heap H locs := by rw [hH, hlocs]; exact hS
  replace hP : va_P D vwCl (w_X9 cI cJ cZ cS mo_A mo_looks_A mo_period_A mo_shut_A mo_phase_A mo_quarters_A mo_tall_A mo_pairs_A mo_pad_A mo_cuts_A mo_at_A mo_first_A mo_kept_A mo_isKept_A mo_people mo_shots mo_looks mo_bride mo_hands mo_period mo_shut mo_phase mo_flash mo_quarters mo_tired mo_rows mo_columns mo_rise mo_tall mo_pairs mo_pad mo_padMany mo_cuts mo_at mo_first mo_kept mo_isKept mo_keptAt mo_isWriting) H := by rw [hH]; exact hP
  clear hH hlocs
  refine lv_aload_n (pc := 0) hx hb dX9_begin_0 rfl (lv_at hl 0 rfl) ?_
  refine lv_iload_n (pc := 1) hx hb dX9_begin_1 rfl (lv_at hl 1 rfl) ?_
  refine va_put (pc := 2) (D := D) (ci := 9) (v := .int p1) (ty := .int) (C := RX9) (T := TX9) (N := 25) hx hb hts inG9 tyX9 tyX9_ok nmX9 hown hK hP hD hS 0 rfl rfl 0 (by decide) (hts _ tw_711) (fun _ h9 => h9) rfl (by decide +kernel) rfl rfl (Nat.le_of_ble_eq_true rfl) dX9_begin_2 (fun H locs hP hD hS => ?_)
  have hP : va_P D vwCl (w_X9 cI cJ cZ cS mo_A mo_looks_A mo_period_A mo_shut_A mo_phase_A mo_quarters_A mo_tall_A mo_pairs_A mo_pad_A mo_cuts_A mo_at_A mo_first_A mo_kept_A mo_isKept_A p1 mo_shots mo_looks mo_bride mo_hands mo_period mo_shut mo_phase mo_flash mo_quarters mo_tired mo_rows mo_columns mo_rise mo_tall mo_pairs mo_pad mo_padMany mo_cuts mo_at mo_first mo_kept mo_isKept mo_keptAt mo_isWriting) H := hP
  have hD : va_D A (w_X9 cI cJ cZ cS mo_A mo_looks_A mo_period_A mo_shut_A mo_phase_A mo_quarters_A mo_tall_A mo_pairs_A mo_pad_A mo_cuts_A mo_at_A mo_first_A mo_kept_A mo_isKept_A p1 mo_shots mo_looks mo_bride mo_hands mo_period mo_shut mo_phase mo_flash mo_quarters mo_tired mo_rows mo_columns mo_rise mo_tall mo_pairs mo_pad mo_padMany mo_cuts mo_at mo_first mo_kept mo_isKept mo_keptAt mo_isWriting) := hD
  refine lv_aload_n (pc := 5) hx hb dX9_begin_5 rfl (lv_at hl 0 rfl) ?_
  refine lv_iconst (pc := 6) (v := (0 : Int32)) hx hb dX9_begin_6 (by decide) ?_
  refine va_put (pc := 7) (D := D) (ci := 9) (v := .int (0 : Int32)) (ty := .int) (C := RX9) (T := TX9) (N := 25) hx hb hts inG9 tyX9 tyX9_ok nmX9 hown hK hP hD hS 0 rfl rfl 1 (by decide) (hts _ tw_712) (fun _ h9 => h9) rfl (by decide +kernel) rfl rfl (Nat.le_of_ble_eq_true rfl) dX9_begin_7 (fun H locs hP hD hS => ?_)
  have hP : va_P D vwCl (w_X9 cI cJ cZ cS mo_A mo_looks_A mo_period_A mo_shut_A mo_phase_A mo_quarters_A mo_tall_A mo_pairs_A mo_pad_A mo_cuts_A mo_at_A mo_first_A mo_kept_A mo_isKept_A p1 (0 : Int32) mo_looks mo_bride mo_hands mo_period mo_shut mo_phase mo_flash mo_quarters mo_tired mo_rows mo_columns mo_rise mo_tall mo_pairs mo_pad mo_padMany mo_cuts mo_at mo_first mo_kept mo_isKept mo_keptAt mo_isWriting) H := hP
  have hD : va_D A (w_X9 cI cJ cZ cS mo_A mo_looks_A mo_period_A mo_shut_A mo_phase_A mo_quarters_A mo_tall_A mo_pairs_A mo_pad_A mo_cuts_A mo_at_A mo_first_A mo_kept_A mo_isKept_A p1 (0 : Int32) mo_looks mo_bride mo_hands mo_period mo_shut mo_phase mo_flash mo_quarters mo_tired mo_rows mo_columns mo_rise mo_tall mo_pairs mo_pad mo_padMany mo_cuts mo_at mo_first mo_kept mo_isKept mo_keptAt mo_isWriting) := hD
  refine lv_aload_n (pc := 10) hx hb dX9_begin_10 rfl (lv_at hl 0 rfl) ?_
  refine lv_bipush (pc := 11) (v := (-6 : Int32)) hx hb dX9_begin_11 (by decide) ?_
  refine va_put (pc := 13) (D := D) (ci := 9) (v := .int (-6 : Int32)) (ty := .int) (C := RX9) (T := TX9) (N := 25) hx hb hts inG9 tyX9 tyX9_ok nmX9 hown hK hP hD hS 0 rfl rfl 3 (by decide) (hts _ tw_714) (fun _ h9 => h9) rfl (by decide +kernel) rfl rfl (Nat.le_of_ble_eq_true rfl) dX9_begin_13 (fun H locs hP hD hS => ?_)
  have hP : va_P D vwCl (w_X9 cI cJ cZ cS mo_A mo_looks_A mo_period_A mo_shut_A mo_phase_A mo_quarters_A mo_tall_A mo_pairs_A mo_pad_A mo_cuts_A mo_at_A mo_first_A mo_kept_A mo_isKept_A p1 (0 : Int32) mo_looks (-6 : Int32) mo_hands mo_period mo_shut mo_phase mo_flash mo_quarters mo_tired mo_rows mo_columns mo_rise mo_tall mo_pairs mo_pad mo_padMany mo_cuts mo_at mo_first mo_kept mo_isKept mo_keptAt mo_isWriting) H := hP
  have hD : va_D A (w_X9 cI cJ cZ cS mo_A mo_looks_A mo_period_A mo_shut_A mo_phase_A mo_quarters_A mo_tall_A mo_pairs_A mo_pad_A mo_cuts_A mo_at_A mo_first_A mo_kept_A mo_isKept_A p1 (0 : Int32) mo_looks (-6 : Int32) mo_hands mo_period mo_shut mo_phase mo_flash mo_quarters mo_tired mo_rows mo_columns mo_rise mo_tall mo_pairs mo_pad mo_padMany mo_cuts mo_at mo_first mo_kept mo_isKept mo_keptAt mo_isWriting) := hD
  refine lv_aload_n (pc := 16) hx hb dX9_begin_16 rfl (lv_at hl 0 rfl) ?_
  refine lv_iconst (pc := 17) (v := (0 : Int32)) hx hb dX9_begin_17 (by decide) ?_
  refine va_put (pc := 18) (D := D) (ci := 9) (v := .int (0 : Int32)) (ty := .int) (C := RX9) (T := TX9) (N := 25) hx hb hts inG9 tyX9 tyX9_ok nmX9 hown hK hP hD hS 0 rfl rfl 4 (by decide) (hts _ tw_715) (fun _ h9 => h9) rfl (by decide +kernel) rfl rfl (Nat.le_of_ble_eq_true rfl) dX9_begin_18 (fun H locs hP hD hS => ?_)
  have hP : va_P D vwCl (w_X9 cI cJ cZ cS mo_A mo_looks_A mo_period_A mo_shut_A mo_phase_A mo_quarters_A mo_tall_A mo_pairs_A mo_pad_A mo_cuts_A mo_at_A mo_first_A mo_kept_A mo_isKept_A p1 (0 : Int32) mo_looks (-6 : Int32) (0 : Int32) mo_period mo_shut mo_phase mo_flash mo_quarters mo_tired mo_rows mo_columns mo_rise mo_tall mo_pairs mo_pad mo_padMany mo_cuts mo_at mo_first mo_kept mo_isKept mo_keptAt mo_isWriting) H := hP
  have hD : va_D A (w_X9 cI cJ cZ cS mo_A mo_looks_A mo_period_A mo_shut_A mo_phase_A mo_quarters_A mo_tall_A mo_pairs_A mo_pad_A mo_cuts_A mo_at_A mo_first_A mo_kept_A mo_isKept_A p1 (0 : Int32) mo_looks (-6 : Int32) (0 : Int32) mo_period mo_shut mo_phase mo_flash mo_quarters mo_tired mo_rows mo_columns mo_rise mo_tall mo_pairs mo_pad mo_padMany mo_cuts mo_at mo_first mo_kept mo_isKept mo_keptAt mo_isWriting) := hD
  refine lv_iconst (pc := 21) (v := (0 : Int32)) hx hb dX9_begin_21 (by decide) ?_
  refine lv_istore_n (pc := 22) (lv' := [(2, .int (0 : Int32)), (0, .ref mo_A), (1, .int p1)]) hx hb dX9_begin_22 rfl hl (by decide) rfl (fun ls hl => ?_)
  obtain ⟨k8, hk8, hf⟩ := lc5_e hf
  have K8 : ∀ (mo_period_9 : Nat → Int32) (mo_shut_10 : Nat → Int32) (mo_phase_11 : Nat → Int32) (mo_quarters_12 : Nat → Int32) (mo_tall_13 : Nat → Int32) (H : Heap) (locs : List Loc) (ls : Array Slot), k8 mo_period_9 mo_shut_10 mo_phase_11 mo_quarters_12 mo_tall_13 = some (r_mo_people, r_mo_shots, r_mo_bride, r_mo_hands, r_mo_period, r_mo_shut, r_mo_phase, r_mo_quarters, r_mo_tall, r_mo_pairs) → va_P D vwCl (w_X9 cI cJ cZ cS mo_A mo_looks_A mo_period_A mo_shut_A mo_phase_A mo_quarters_A mo_tall_A mo_pairs_A mo_pad_A mo_cuts_A mo_at_A mo_first_A mo_kept_A mo_isKept_A p1 (0 : Int32) mo_looks (-6 : Int32) (0 : Int32) mo_period_9 mo_shut_10 mo_phase_11 mo_flash mo_quarters_12 mo_tired mo_rows mo_columns mo_rise mo_tall_13 mo_pairs mo_pad mo_padMany mo_cuts mo_at mo_first mo_kept mo_isKept mo_keptAt mo_isWriting) H → va_D A (w_X9 cI cJ cZ cS mo_A mo_looks_A mo_period_A mo_shut_A mo_phase_A mo_quarters_A mo_tall_A mo_pairs_A mo_pad_A mo_cuts_A mo_at_A mo_first_A mo_kept_A mo_isKept_A p1 (0 : Int32) mo_looks (-6 : Int32) (0 : Int32) mo_period_9 mo_shut_10 mo_phase_11 mo_flash mo_quarters_12 mo_tired mo_rows mo_columns mo_rise mo_tall_13 mo_pairs mo_pad mo_padMany mo_cuts mo_at mo_first mo_kept mo_isKept mo_keptAt mo_isWriting) → va_S A s.heap H locs → lv_has ls 3 [(0, .ref mo_A)] → W p l e (roR 0 0) s m args below meth c H locs 0 0 Q (F0 m 73 ls []) := by
    intro mo_period_9 mo_shut_10 mo_phase_11 mo_quarters_12 mo_tall_13 H locs ls hf hP hD hS hl
    rw [hk8] at hf
    refine lv_iconst (pc := 73) (v := (0 : Int32)) hx hb dX9_begin_73 (by decide) ?_
    refine lv_istore_n (pc := 74) (lv' := [(2, .int (0 : Int32)), (0, .ref mo_A)]) hx hb dX9_begin_74 rfl hl (by decide) rfl (fun ls hl => ?_)
    obtain ⟨k22, hk22, hf⟩ := lc1_e hf
    have K22 : ∀ (mo_pairs_23 : Nat → Int32) (H : Heap) (locs : List Loc) (ls : Array Slot), k22 mo_pairs_23 = some (r_mo_people, r_mo_shots, r_mo_bride, r_mo_hands, r_mo_period, r_mo_shut, r_mo_phase, r_mo_quarters, r_mo_tall, r_mo_pairs) → va_P D vwCl (w_X9 cI cJ cZ cS mo_A mo_looks_A mo_period_A mo_shut_A mo_phase_A mo_quarters_A mo_tall_A mo_pairs_A mo_pad_A mo_cuts_A mo_at_A mo_first_A mo_kept_A mo_isKept_A p1 (0 : Int32) mo_looks (-6 : Int32) (0 : Int32) mo_period_9 mo_shut_10 mo_phase_11 mo_flash mo_quarters_12 mo_tired mo_rows mo_columns mo_rise mo_tall_13 mo_pairs_23 mo_pad mo_padMany mo_cuts mo_at mo_first mo_kept mo_isKept mo_keptAt mo_isWriting) H → va_D A (w_X9 cI cJ cZ cS mo_A mo_looks_A mo_period_A mo_shut_A mo_phase_A mo_quarters_A mo_tall_A mo_pairs_A mo_pad_A mo_cuts_A mo_at_A mo_first_A mo_kept_A mo_isKept_A p1 (0 : Int32) mo_looks (-6 : Int32) (0 : Int32) mo_period_9 mo_shut_10 mo_phase_11 mo_flash mo_quarters_12 mo_tired mo_rows mo_columns mo_rise mo_tall_13 mo_pairs_23 mo_pad mo_padMany mo_cuts mo_at mo_first mo_kept mo_isKept mo_keptAt mo_isWriting) → va_S A s.heap H locs → lv_has ls 3 [] → W p l e (roR 0 0) s m args below meth c H locs 0 0 Q (F0 m 94 ls []) := by
      intro mo_pairs_23 H locs ls hf hP hD hS hl
      rw [hk22] at hf
      cases hf
      exact hQ _ _ _ _ dX9_begin_94 hP hD hS
    have L75 : ∀ (n : Nat), ∀ (y19 : Int32) (mo_pairs_20 : Nat → Int32) (H : Heap) (locs : List Loc) (ls : Array Slot), f_X9_begin_L75 k22 n y19 mo_pairs_20 = some (r_mo_people, r_mo_shots, r_mo_bride, r_mo_hands, r_mo_period, r_mo_shut, r_mo_phase, r_mo_quarters, r_mo_tall, r_mo_pairs) → va_P D vwCl (w_X9 cI cJ cZ cS mo_A mo_looks_A mo_period_A mo_shut_A mo_phase_A mo_quarters_A mo_tall_A mo_pairs_A mo_pad_A mo_cuts_A mo_at_A mo_first_A mo_kept_A mo_isKept_A p1 (0 : Int32) mo_looks (-6 : Int32) (0 : Int32) mo_period_9 mo_shut_10 mo_phase_11 mo_flash mo_quarters_12 mo_tired mo_rows mo_columns mo_rise mo_tall_13 mo_pairs_20 mo_pad mo_padMany mo_cuts mo_at mo_first mo_kept mo_isKept mo_keptAt mo_isWriting) H → va_D A (w_X9 cI cJ cZ cS mo_A mo_looks_A mo_period_A mo_shut_A mo_phase_A mo_quarters_A mo_tall_A mo_pairs_A mo_pad_A mo_cuts_A mo_at_A mo_first_A mo_kept_A mo_isKept_A p1 (0 : Int32) mo_looks (-6 : Int32) (0 : Int32) mo_period_9 mo_shut_10 mo_phase_11 mo_flash mo_quarters_12 mo_tired mo_rows mo_columns mo_rise mo_tall_13 mo_pairs_20 mo_pad mo_padMany mo_cuts mo_at mo_first mo_kept mo_isKept mo_keptAt mo_isWriting) → va_S A s.heap H locs → lv_has ls 3 [(0, .ref mo_A), (2, .int y19)] → W p l e (roR 0 0) s m args below meth c H locs 0 0 Q (F0 m 75 ls []) := by
      intro n
      induction n with
      | zero =>
        intro y19 mo_pairs_20 H locs ls hf
        rw [f_X9_begin_L75] at hf
        cases hf
      | succ n ih =>
        intro y19 mo_pairs_20 H locs ls hf hP hD hS hl
        rw [f_X9_begin_L75] at hf
        refine lv_iload_n (pc := 75) hx hb dX9_begin_75 rfl (lv_at hl 1 rfl) ?_
        refine lv_bipush (pc := 76) (v := (64 : Int32)) hx hb dX9_begin_76 (by decide) ?_
        refine r_ic_ge (pc := 78) (tgt := 94) hx hb dX9_begin_78 (by decide) hf (fun hf => ?_) (fun hf => ?_)
        · exact K22 _ _ _ _ hf hP hD hS (lv_sub hl [] rfl)
        · refine lv_aload_n (pc := 81) hx hb dX9_begin_81 rfl (lv_at hl 0 rfl) ?_
          refine va_get (pc := 82) (D := D) (ci := 9) (v := .ref mo_pairs_A) (C := RX9) (T := TX9) (N := 25) hx hb hts inG9 hown hK hP 0 rfl rfl 15 (by decide) (hts _ tw_726) (fun _ h9 => h9) rfl dX9_begin_82 ?_
          refine lv_iload_n (pc := 85) hx hb dX9_begin_85 rfl (lv_at hl 1 rfl) ?_
          refine lv_iconst (pc := 86) (v := (0 : Int32)) hx hb dX9_begin_86 (by decide) ?_
          refine r_iast (pc := 87) hx hb hK hP hD hS 7 0 rfl rfl hf dX9_begin_87 (fun mo_pairs_24 H locs hf hP hD hS => ?_)
          have hP : va_P D vwCl (w_X9 cI cJ cZ cS mo_A mo_looks_A mo_period_A mo_shut_A mo_phase_A mo_quarters_A mo_tall_A mo_pairs_A mo_pad_A mo_cuts_A mo_at_A mo_first_A mo_kept_A mo_isKept_A p1 (0 : Int32) mo_looks (-6 : Int32) (0 : Int32) mo_period_9 mo_shut_10 mo_phase_11 mo_flash mo_quarters_12 mo_tired mo_rows mo_columns mo_rise mo_tall_13 mo_pairs_24 mo_pad mo_padMany mo_cuts mo_at mo_first mo_kept mo_isKept mo_keptAt mo_isWriting) H := hP
          have hD : va_D A (w_X9 cI cJ cZ cS mo_A mo_looks_A mo_period_A mo_shut_A mo_phase_A mo_quarters_A mo_tall_A mo_pairs_A mo_pad_A mo_cuts_A mo_at_A mo_first_A mo_kept_A mo_isKept_A p1 (0 : Int32) mo_looks (-6 : Int32) (0 : Int32) mo_period_9 mo_shut_10 mo_phase_11 mo_flash mo_quarters_12 mo_tired mo_rows mo_columns mo_rise mo_tall_13 mo_pairs_24 mo_pad mo_padMany mo_cuts mo_at mo_first mo_kept mo_isKept mo_keptAt mo_isWriting) := hD
          refine lv_iinc (pc := 88) (v := (y19 + (1 : Int32))) (lv' := [(2, .int (y19 + (1 : Int32))), (0, .ref mo_A)]) hx hb dX9_begin_88 hl (k := 1) rfl (by rfl) (by decide) rfl (fun ls hl => ?_)
          refine lv_goto (pc := 91) (tgt := 75) hx hb dX9_begin_91 (by decide) ?_
          exact ih _ _ _ _ _ hf hP hD hS (lv_sub hl [1, 0] rfl)
    exact L75 N _ _ _ _ _ hf hP hD hS (lv_sub hl [1, 0] rfl)
  have L23 : ∀ (n : Nat), ∀ (y1 : Int32) (mo_period_2 : Nat → Int32) (mo_shut_3 : Nat → Int32) (mo_phase_4 : Nat → Int32) (mo_quarters_5 : Nat → Int32) (mo_tall_6 : Nat → Int32) (H : Heap) (locs : List Loc) (ls : Array Slot), f_X9_begin_L23 k8 n y1 mo_period_2 mo_shut_3 mo_phase_4 mo_quarters_5 mo_tall_6 = some (r_mo_people, r_mo_shots, r_mo_bride, r_mo_hands, r_mo_period, r_mo_shut, r_mo_phase, r_mo_quarters, r_mo_tall, r_mo_pairs) → va_P D vwCl (w_X9 cI cJ cZ cS mo_A mo_looks_A mo_period_A mo_shut_A mo_phase_A mo_quarters_A mo_tall_A mo_pairs_A mo_pad_A mo_cuts_A mo_at_A mo_first_A mo_kept_A mo_isKept_A p1 (0 : Int32) mo_looks (-6 : Int32) (0 : Int32) mo_period_2 mo_shut_3 mo_phase_4 mo_flash mo_quarters_5 mo_tired mo_rows mo_columns mo_rise mo_tall_6 mo_pairs mo_pad mo_padMany mo_cuts mo_at mo_first mo_kept mo_isKept mo_keptAt mo_isWriting) H → va_D A (w_X9 cI cJ cZ cS mo_A mo_looks_A mo_period_A mo_shut_A mo_phase_A mo_quarters_A mo_tall_A mo_pairs_A mo_pad_A mo_cuts_A mo_at_A mo_first_A mo_kept_A mo_isKept_A p1 (0 : Int32) mo_looks (-6 : Int32) (0 : Int32) mo_period_2 mo_shut_3 mo_phase_4 mo_flash mo_quarters_5 mo_tired mo_rows mo_columns mo_rise mo_tall_6 mo_pairs mo_pad mo_padMany mo_cuts mo_at mo_first mo_kept mo_isKept mo_keptAt mo_isWriting) → va_S A s.heap H locs → lv_has ls 3 [(0, .ref mo_A), (2, .int y1)] → W p l e (roR 0 0) s m args below meth c H locs 0 0 Q (F0 m 23 ls []) := by
    intro n
    induction n with
    | zero =>
      intro y1 mo_period_2 mo_shut_3 mo_phase_4 mo_quarters_5 mo_tall_6 H locs ls hf
      rw [f_X9_begin_L23] at hf
      cases hf
    | succ n ih =>
      intro y1 mo_period_2 mo_shut_3 mo_phase_4 mo_quarters_5 mo_tall_6 H locs ls hf hP hD hS hl
      rw [f_X9_begin_L23] at hf
      refine lv_iload_n (pc := 23) hx hb dX9_begin_23 rfl (lv_at hl 1 rfl) ?_
      refine lv_bipush (pc := 24) (v := (8 : Int32)) hx hb dX9_begin_24 (by decide) ?_
      refine r_ic_ge (pc := 26) (tgt := 73) hx hb dX9_begin_26 (by decide) hf (fun hf => ?_) (fun hf => ?_)
      · exact K8 _ _ _ _ _ _ _ _ hf hP hD hS (lv_sub hl [0] rfl)
      · refine lv_aload_n (pc := 29) hx hb dX9_begin_29 rfl (lv_at hl 0 rfl) ?_
        refine va_get (pc := 30) (D := D) (ci := 9) (v := .ref mo_period_A) (C := RX9) (T := TX9) (N := 25) hx hb hts inG9 hown hK hP 0 rfl rfl 5 (by decide) (hts _ tw_716) (fun _ h9 => h9) rfl dX9_begin_30 ?_
        refine lv_iload_n (pc := 33) hx hb dX9_begin_33 rfl (lv_at hl 1 rfl) ?_
        refine lv_bipush (pc := 34) (v := (30 : Int32)) hx hb dX9_begin_34 (by decide) ?_
        refine r_iast (pc := 36) hx hb hK hP hD hS 2 0 rfl rfl hf dX9_begin_36 (fun mo_period_14 H locs hf hP hD hS => ?_)
        have hP : va_P D vwCl (w_X9 cI cJ cZ cS mo_A mo_looks_A mo_period_A mo_shut_A mo_phase_A mo_quarters_A mo_tall_A mo_pairs_A mo_pad_A mo_cuts_A mo_at_A mo_first_A mo_kept_A mo_isKept_A p1 (0 : Int32) mo_looks (-6 : Int32) (0 : Int32) mo_period_14 mo_shut_3 mo_phase_4 mo_flash mo_quarters_5 mo_tired mo_rows mo_columns mo_rise mo_tall_6 mo_pairs mo_pad mo_padMany mo_cuts mo_at mo_first mo_kept mo_isKept mo_keptAt mo_isWriting) H := hP
        have hD : va_D A (w_X9 cI cJ cZ cS mo_A mo_looks_A mo_period_A mo_shut_A mo_phase_A mo_quarters_A mo_tall_A mo_pairs_A mo_pad_A mo_cuts_A mo_at_A mo_first_A mo_kept_A mo_isKept_A p1 (0 : Int32) mo_looks (-6 : Int32) (0 : Int32) mo_period_14 mo_shut_3 mo_phase_4 mo_flash mo_quarters_5 mo_tired mo_rows mo_columns mo_rise mo_tall_6 mo_pairs mo_pad mo_padMany mo_cuts mo_at mo_first mo_kept mo_isKept mo_keptAt mo_isWriting) := hD
        refine lv_aload_n (pc := 37) hx hb dX9_begin_37 rfl (lv_at hl 0 rfl) ?_
        refine va_get (pc := 38) (D := D) (ci := 9) (v := .ref mo_shut_A) (C := RX9) (T := TX9) (N := 25) hx hb hts inG9 hown hK hP 0 rfl rfl 6 (by decide) (hts _ tw_717) (fun _ h9 => h9) rfl dX9_begin_38 ?_
        refine lv_iload_n (pc := 41) hx hb dX9_begin_41 rfl (lv_at hl 1 rfl) ?_
        refine lv_iconst (pc := 42) (v := (2 : Int32)) hx hb dX9_begin_42 (by decide) ?_
        refine r_iast (pc := 43) hx hb hK hP hD hS 3 0 rfl rfl hf dX9_begin_43 (fun mo_shut_15 H locs hf hP hD hS => ?_)
        have hP : va_P D vwCl (w_X9 cI cJ cZ cS mo_A mo_looks_A mo_period_A mo_shut_A mo_phase_A mo_quarters_A mo_tall_A mo_pairs_A mo_pad_A mo_cuts_A mo_at_A mo_first_A mo_kept_A mo_isKept_A p1 (0 : Int32) mo_looks (-6 : Int32) (0 : Int32) mo_period_14 mo_shut_15 mo_phase_4 mo_flash mo_quarters_5 mo_tired mo_rows mo_columns mo_rise mo_tall_6 mo_pairs mo_pad mo_padMany mo_cuts mo_at mo_first mo_kept mo_isKept mo_keptAt mo_isWriting) H := hP
        have hD : va_D A (w_X9 cI cJ cZ cS mo_A mo_looks_A mo_period_A mo_shut_A mo_phase_A mo_quarters_A mo_tall_A mo_pairs_A mo_pad_A mo_cuts_A mo_at_A mo_first_A mo_kept_A mo_isKept_A p1 (0 : Int32) mo_looks (-6 : Int32) (0 : Int32) mo_period_14 mo_shut_15 mo_phase_4 mo_flash mo_quarters_5 mo_tired mo_rows mo_columns mo_rise mo_tall_6 mo_pairs mo_pad mo_padMany mo_cuts mo_at mo_first mo_kept mo_isKept mo_keptAt mo_isWriting) := hD
        refine lv_aload_n (pc := 44) hx hb dX9_begin_44 rfl (lv_at hl 0 rfl) ?_
        refine va_get (pc := 45) (D := D) (ci := 9) (v := .ref mo_phase_A) (C := RX9) (T := TX9) (N := 25) hx hb hts inG9 hown hK hP 0 rfl rfl 7 (by decide) (hts _ tw_718) (fun _ h9 => h9) rfl dX9_begin_45 ?_
        refine lv_iload_n (pc := 48) hx hb dX9_begin_48 rfl (lv_at hl 1 rfl) ?_
        refine lv_iconst (pc := 49) (v := (0 : Int32)) hx hb dX9_begin_49 (by decide) ?_
        refine r_iast (pc := 50) hx hb hK hP hD hS 4 0 rfl rfl hf dX9_begin_50 (fun mo_phase_16 H locs hf hP hD hS => ?_)
        have hP : va_P D vwCl (w_X9 cI cJ cZ cS mo_A mo_looks_A mo_period_A mo_shut_A mo_phase_A mo_quarters_A mo_tall_A mo_pairs_A mo_pad_A mo_cuts_A mo_at_A mo_first_A mo_kept_A mo_isKept_A p1 (0 : Int32) mo_looks (-6 : Int32) (0 : Int32) mo_period_14 mo_shut_15 mo_phase_16 mo_flash mo_quarters_5 mo_tired mo_rows mo_columns mo_rise mo_tall_6 mo_pairs mo_pad mo_padMany mo_cuts mo_at mo_first mo_kept mo_isKept mo_keptAt mo_isWriting) H := hP
        have hD : va_D A (w_X9 cI cJ cZ cS mo_A mo_looks_A mo_period_A mo_shut_A mo_phase_A mo_quarters_A mo_tall_A mo_pairs_A mo_pad_A mo_cuts_A mo_at_A mo_first_A mo_kept_A mo_isKept_A p1 (0 : Int32) mo_looks (-6 : Int32) (0 : Int32) mo_period_14 mo_shut_15 mo_phase_16 mo_flash mo_quarters_5 mo_tired mo_rows mo_columns mo_rise mo_tall_6 mo_pairs mo_pad mo_padMany mo_cuts mo_at mo_first mo_kept mo_isKept mo_keptAt mo_isWriting) := hD
        refine lv_aload_n (pc := 51) hx hb dX9_begin_51 rfl (lv_at hl 0 rfl) ?_
        refine va_get (pc := 52) (D := D) (ci := 9) (v := .ref mo_quarters_A) (C := RX9) (T := TX9) (N := 25) hx hb hts inG9 hown hK hP 0 rfl rfl 9 (by decide) (hts _ tw_720) (fun _ h9 => h9) rfl dX9_begin_52 ?_
        refine lv_iload_n (pc := 55) hx hb dX9_begin_55 rfl (lv_at hl 1 rfl) ?_
        refine lv_iconst (pc := 56) (v := (1 : Int32)) hx hb dX9_begin_56 (by decide) ?_
        refine r_iast (pc := 57) hx hb hK hP hD hS 5 0 rfl rfl hf dX9_begin_57 (fun mo_quarters_17 H locs hf hP hD hS => ?_)
        have hP : va_P D vwCl (w_X9 cI cJ cZ cS mo_A mo_looks_A mo_period_A mo_shut_A mo_phase_A mo_quarters_A mo_tall_A mo_pairs_A mo_pad_A mo_cuts_A mo_at_A mo_first_A mo_kept_A mo_isKept_A p1 (0 : Int32) mo_looks (-6 : Int32) (0 : Int32) mo_period_14 mo_shut_15 mo_phase_16 mo_flash mo_quarters_17 mo_tired mo_rows mo_columns mo_rise mo_tall_6 mo_pairs mo_pad mo_padMany mo_cuts mo_at mo_first mo_kept mo_isKept mo_keptAt mo_isWriting) H := hP
        have hD : va_D A (w_X9 cI cJ cZ cS mo_A mo_looks_A mo_period_A mo_shut_A mo_phase_A mo_quarters_A mo_tall_A mo_pairs_A mo_pad_A mo_cuts_A mo_at_A mo_first_A mo_kept_A mo_isKept_A p1 (0 : Int32) mo_looks (-6 : Int32) (0 : Int32) mo_period_14 mo_shut_15 mo_phase_16 mo_flash mo_quarters_17 mo_tired mo_rows mo_columns mo_rise mo_tall_6 mo_pairs mo_pad mo_padMany mo_cuts mo_at mo_first mo_kept mo_isKept mo_keptAt mo_isWriting) := hD
        refine lv_aload_n (pc := 58) hx hb dX9_begin_58 rfl (lv_at hl 0 rfl) ?_
        refine va_get (pc := 59) (D := D) (ci := 9) (v := .ref mo_tall_A) (C := RX9) (T := TX9) (N := 25) hx hb hts inG9 hown hK hP 0 rfl rfl 14 (by decide) (hts _ tw_725) (fun _ h9 => h9) rfl dX9_begin_59 ?_
        refine lv_iload_n (pc := 62) hx hb dX9_begin_62 rfl (lv_at hl 1 rfl) ?_
        refine lv_sipush (pc := 63) (v := (170 : Int32)) hx hb dX9_begin_63 (by decide) ?_
        refine r_iast (pc := 66) hx hb hK hP hD hS 6 0 rfl rfl hf dX9_begin_66 (fun mo_tall_18 H locs hf hP hD hS => ?_)
        have hP : va_P D vwCl (w_X9 cI cJ cZ cS mo_A mo_looks_A mo_period_A mo_shut_A mo_phase_A mo_quarters_A mo_tall_A mo_pairs_A mo_pad_A mo_cuts_A mo_at_A mo_first_A mo_kept_A mo_isKept_A p1 (0 : Int32) mo_looks (-6 : Int32) (0 : Int32) mo_period_14 mo_shut_15 mo_phase_16 mo_flash mo_quarters_17 mo_tired mo_rows mo_columns mo_rise mo_tall_18 mo_pairs mo_pad mo_padMany mo_cuts mo_at mo_first mo_kept mo_isKept mo_keptAt mo_isWriting) H := hP
        have hD : va_D A (w_X9 cI cJ cZ cS mo_A mo_looks_A mo_period_A mo_shut_A mo_phase_A mo_quarters_A mo_tall_A mo_pairs_A mo_pad_A mo_cuts_A mo_at_A mo_first_A mo_kept_A mo_isKept_A p1 (0 : Int32) mo_looks (-6 : Int32) (0 : Int32) mo_period_14 mo_shut_15 mo_phase_16 mo_flash mo_quarters_17 mo_tired mo_rows mo_columns mo_rise mo_tall_18 mo_pairs mo_pad mo_padMany mo_cuts mo_at mo_first mo_kept mo_isKept mo_keptAt mo_isWriting) := hD
        refine lv_iinc (pc := 67) (v := (y1 + (1 : Int32))) (lv' := [(2, .int (y1 + (1 : Int32))), (0, .ref mo_A)]) hx hb dX9_begin_67 hl (k := 1) rfl (by rfl) (by decide) rfl (fun ls hl => ?_)
        refine lv_goto (pc := 70) (tgt := 23) hx hb dX9_begin_70 (by decide) ?_
        exact ih _ _ _ _ _ _ _ _ _ hf hP hD hS (lv_sub hl [1, 0] rfl)
  exact L23 N _ _ _ _ _ _ _ _ _ hf hP hD hS (lv_sub hl [1, 0] rfl)
theorem F_X9_isPerson : CalF yX9_isPerson cX9_isPerson 2 (some .boolean) 1 := ⟨tw_803, tw_10, by decide +kernel⟩
set_option maxRecDepth 100000 in
set_option maxHeartbeats 4000000 in
theorem c_X9_isPerson (l : Launch) (D : va_G) (cI cJ cZ cS : ClassId) (mo_A mo_looks_A mo_period_A mo_shut_A mo_phase_A mo_quarters_A mo_tall_A mo_pairs_A mo_pad_A mo_cuts_A mo_at_A mo_first_A mo_kept_A mo_isKept_A : Nat) (mo_people : Int32) (mo_shots : Int32) (mo_looks : Nat → Int32) (mo_bride : Int32) (mo_hands : Int32) (mo_period : Nat → Int32) (mo_shut : Nat → Int32) (mo_phase : Nat → Int32) (mo_flash : Int32) (mo_quarters : Nat → Int32) (mo_tired : Int32) (mo_rows : Int32) (mo_columns : Int32) (mo_rise : Int32) (mo_tall : Nat → Int32) (mo_pairs : Nat → Int32) (mo_pad : Nat → Int32) (mo_padMany : Int32) (mo_cuts : Nat → Int32) (mo_at : Nat → Int32) (mo_first : Nat → Int32) (mo_kept : Nat → Int32) (mo_isKept : Nat → Int32) (mo_keptAt : Int32) (mo_isWriting : Int32) (p1 : Int32) (r : Int32) (hf : f_X9_isPerson mo_people p1 = some r) : RoC l D cI cJ cZ cS yX9_isPerson cX9_isPerson 2 (some .boolean) 1 25 (w_X9 cI cJ cZ cS mo_A mo_looks_A mo_period_A mo_shut_A mo_phase_A mo_quarters_A mo_tall_A mo_pairs_A mo_pad_A mo_cuts_A mo_at_A mo_first_A mo_kept_A mo_isKept_A mo_people mo_shots mo_looks mo_bride mo_hands mo_period mo_shut mo_phase mo_flash mo_quarters mo_tired mo_rows mo_columns mo_rise mo_tall mo_pairs mo_pad mo_padMany mo_cuts mo_at mo_first mo_kept mo_isKept mo_keptAt mo_isWriting) [.ref mo_A, .int p1] (some (.int r)) := by
  refine ro_in_z (own := RX9) (by decide +kernel) rfl (Nat.le_of_ble_eq_true rfl) ?_
  intro p e s m args below meth c ls Q E hQ hP hl
  obtain ⟨hx, hb, hml, hown, hts, hK, hN, hAO⟩ := id E
  have hl : lv_has ls 2 [(0, .ref mo_A), (1, .int p1)] := hl
  unfold f_X9_isPerson at hf
  refine lv_iload_n (pc := 0) hx hb dX9_isPerson_0 rfl (lv_at hl 1 rfl) ?_
  refine lv_i2l (pc := 1) (v := (Int32.toInt64 p1)) hx hb dX9_isPerson_1 rfl ?_
  refine lv_lconst (pc := 2) (v := (0 : Int64)) hx hb dX9_isPerson_2 (by decide) ?_
  refine lv_aload_n (pc := 3) hx hb dX9_isPerson_3 rfl (lv_at hl 0 rfl) ?_
  refine va_get (pc := 4) (D := D) (ci := 9) (v := .int mo_people) (C := RX9) (T := TX9) (N := 25) hx hb hts inG9 hown hK hP 0 rfl rfl 0 (by decide) (hts _ tw_711) (fun _ h9 => h9) rfl dX9_isPerson_4 ?_
  refine lv_iconst (pc := 7) (v := (1 : Int32)) hx hb dX9_isPerson_7 (by decide) ?_
  refine lv_isub (pc := 8) hx hb dX9_isPerson_8 ?_
  refine lv_i2l (pc := 9) (v := (Int32.toInt64 (mo_people - (1 : Int32)))) hx hb dX9_isPerson_9 rfl ?_
  obtain ⟨v1, hv10, hf⟩ := bd_e hf
  refine ro_Si (pc := 10) (As := [.long (Int32.toInt64 p1), .long (0 : Int64), .long (Int32.toInt64 (mo_people - (1 : Int32)))]) (rest := []) E (c_X9_in l D cI cJ cZ cS (Int32.toInt64 p1) (0 : Int64) (Int32.toInt64 (mo_people - (1 : Int32))) v1 hv10) F_X9_in tw_793 tw_794  va_P_nil ⟨by decide, by decide⟩ rfl hl.1 (Nat.le_of_ble_eq_true rfl) ⟨by decide, by decide⟩ rfl dX9_isPerson_10 ?_
  exact hQ _ _ _ dX9_isPerson_13 (bz_e hf).2 (congrArg some (bz_e hf).1)
theorem F_X9_people : CalF yX9_people cX9_people 3 (some .int) 1 := ⟨tw_791, tw_10, by decide +kernel⟩
set_option maxRecDepth 100000 in
set_option maxHeartbeats 4000000 in
theorem c_X9_people (l : Launch) (D : va_G) (cI cJ cZ cS : ClassId) (N : Nat) (mo_A mo_looks_A mo_period_A mo_shut_A mo_phase_A mo_quarters_A mo_tall_A mo_pairs_A mo_pad_A mo_cuts_A mo_at_A mo_first_A mo_kept_A mo_isKept_A : Nat) (mo_people : Int32) (mo_shots : Int32) (mo_looks : Nat → Int32) (mo_bride : Int32) (mo_hands : Int32) (mo_period : Nat → Int32) (mo_shut : Nat → Int32) (mo_phase : Nat → Int32) (mo_flash : Int32) (mo_quarters : Nat → Int32) (mo_tired : Int32) (mo_rows : Int32) (mo_columns : Int32) (mo_rise : Int32) (mo_tall : Nat → Int32) (mo_pairs : Nat → Int32) (mo_pad : Nat → Int32) (mo_padMany : Int32) (mo_cuts : Nat → Int32) (mo_at : Nat → Int32) (mo_first : Nat → Int32) (mo_kept : Nat → Int32) (mo_isKept : Nat → Int32) (mo_keptAt : Int32) (mo_isWriting : Int32) (p1 : Int32) (sz : Nat) (r : Int32) (r_mo_people : Int32) (r_mo_shots : Int32) (r_mo_bride : Int32) (r_mo_hands : Int32) (r_mo_period : Nat → Int32) (r_mo_shut : Nat → Int32) (r_mo_phase : Nat → Int32) (r_mo_quarters : Nat → Int32) (r_mo_tall : Nat → Int32) (r_mo_pairs : Nat → Int32) (hf : f_X9_people N mo_people mo_shots mo_bride mo_hands mo_period mo_shut mo_phase mo_quarters mo_tall mo_pairs p1 = some (r, r_mo_people, r_mo_shots, r_mo_bride, r_mo_hands, r_mo_period, r_mo_shut, r_mo_phase, r_mo_quarters, r_mo_tall, r_mo_pairs)) : RwC l D cI cJ cZ cS yX9_people cX9_people 3 (some .int) 1 25 (w_X9 cI cJ cZ cS mo_A mo_looks_A mo_period_A mo_shut_A mo_phase_A mo_quarters_A mo_tall_A mo_pairs_A mo_pad_A mo_cuts_A mo_at_A mo_first_A mo_kept_A mo_isKept_A mo_people mo_shots mo_looks mo_bride mo_hands mo_period mo_shut mo_phase mo_flash mo_quarters mo_tired mo_rows mo_columns mo_rise mo_tall mo_pairs mo_pad mo_padMany mo_cuts mo_at mo_first mo_kept mo_isKept mo_keptAt mo_isWriting) sz [.ref mo_A, .int p1] (some (.int r)) (w_X9 cI cJ cZ cS mo_A mo_looks_A mo_period_A mo_shut_A mo_phase_A mo_quarters_A mo_tall_A mo_pairs_A mo_pad_A mo_cuts_A mo_at_A mo_first_A mo_kept_A mo_isKept_A r_mo_people r_mo_shots mo_looks r_mo_bride r_mo_hands r_mo_period r_mo_shut r_mo_phase mo_flash r_mo_quarters mo_tired mo_rows mo_columns mo_rise r_mo_tall r_mo_pairs mo_pad mo_padMany mo_cuts mo_at mo_first mo_kept mo_isKept mo_keptAt mo_isWriting) := by
  refine rw_in_i (own := RX9) (by decide +kernel) rfl (Nat.le_of_ble_eq_true rfl) ?_
  intro p e s m args below meth c ls Q A E hA hQ hP hD hS hl
  obtain ⟨hx, hb, hml, hown, hts, hK, hN, hAO⟩ := id E
  have hl : lv_has ls 3 [(0, .ref mo_A), (1, .int p1)] := hl
  unfold f_X9_people at hf
  obtain ⟨H, hH⟩ : ∃ H, H = s.heap := ⟨_, rfl⟩
  obtain ⟨locs, hlocs⟩ : ∃ L : List Loc, L = [] := ⟨_, rfl⟩
  rw [show W p l e (roR 1 25) s m args below meth c s.heap [] 0 0 Q (F0 m 0 ls []) = W p l e (roR 1 25) s m args below meth c H locs 0 0 Q (F0 m 0 ls []) by rw [hH, hlocs]]
  replace hS : va_S A s.heap H locs := by rw [hH, hlocs]; exact hS
  replace hP : va_P D vwCl (w_X9 cI cJ cZ cS mo_A mo_looks_A mo_period_A mo_shut_A mo_phase_A mo_quarters_A mo_tall_A mo_pairs_A mo_pad_A mo_cuts_A mo_at_A mo_first_A mo_kept_A mo_isKept_A mo_people mo_shots mo_looks mo_bride mo_hands mo_period mo_shut mo_phase mo_flash mo_quarters mo_tired mo_rows mo_columns mo_rise mo_tall mo_pairs mo_pad mo_padMany mo_cuts mo_at mo_first mo_kept mo_isKept mo_keptAt mo_isWriting) H := by rw [hH]; exact hP
  clear hH hlocs
  refine lv_iload_n (pc := 0) hx hb dX9_people_0 rfl (lv_at hl 1 rfl) ?_
  refine lv_i2l (pc := 1) (v := (Int32.toInt64 p1)) hx hb dX9_people_1 rfl ?_
  refine lv_lconst (pc := 2) (v := (1 : Int64)) hx hb dX9_people_2 (by decide) ?_
  refine lv_ldc2 (pc := 3) hx hb hown (hts _ tw_792) dX9_people_3 ?_
  obtain ⟨v1, hv6, hf⟩ := bd_e hf
  refine ro_Si (pc := 6) (As := [.long (Int32.toInt64 p1), .long (1 : Int64), .long (8 : Int64)]) (rest := []) E (c_X9_in l D cI cJ cZ cS (Int32.toInt64 p1) (1 : Int64) (8 : Int64) v1 hv6) F_X9_in tw_793 tw_794  va_P_nil ⟨by decide, by decide⟩ rfl hl.1 (Nat.le_of_ble_eq_true rfl) ⟨by decide, by decide⟩ rfl dX9_people_6 ?_
  refine r_if_ne (pc := 9) (tgt := 15) hx hb dX9_people_9 (by decide) hf (fun hf => ?_) (fun hf => ?_)
  · refine lv_aload_n (pc := 15) hx hb dX9_people_15 rfl (lv_at hl 0 rfl) ?_
    refine va_get (pc := 16) (D := D) (ci := 9) (v := .int mo_people) (C := RX9) (T := TX9) (N := 25) hx hb hts inG9 hown hK hP 0 rfl rfl 0 (by decide) (hts _ tw_711) (fun _ h9 => h9) rfl dX9_people_16 ?_
    refine lv_istore_n (pc := 19) (lv' := [(2, .int mo_people), (0, .ref mo_A), (1, .int p1)]) hx hb dX9_people_19 rfl hl (by decide) rfl (fun ls hl => ?_)
    refine lv_aload_n (pc := 20) hx hb dX9_people_20 rfl (lv_at hl 1 rfl) ?_
    refine lv_iload_n (pc := 21) hx hb dX9_people_21 rfl (lv_at hl 2 rfl) ?_
    obtain ⟨⟨mo_people_2, mo_shots_3, mo_bride_4, mo_hands_5, mo_period_6, mo_shut_7, mo_phase_8, mo_quarters_9, mo_tall_10, mo_pairs_11⟩, hv22, hf⟩ := bd_e hf
    refine rw_Vv (pc := 22) (As := [.int p1]) (rest := []) (wr := []) (wn := (w_X9 cI cJ cZ cS mo_A mo_looks_A mo_period_A mo_shut_A mo_phase_A mo_quarters_A mo_tall_A mo_pairs_A mo_pad_A mo_cuts_A mo_at_A mo_first_A mo_kept_A mo_isKept_A mo_people_2 mo_shots_3 mo_looks mo_bride_4 mo_hands_5 mo_period_6 mo_shut_7 mo_phase_8 mo_flash mo_quarters_9 mo_tired mo_rows mo_columns mo_rise mo_tall_10 mo_pairs_11 mo_pad mo_padMany mo_cuts mo_at mo_first mo_kept mo_isKept mo_keptAt mo_isWriting)) E (c_X9_begin l D cI cJ cZ cS N mo_A mo_looks_A mo_period_A mo_shut_A mo_phase_A mo_quarters_A mo_tall_A mo_pairs_A mo_pad_A mo_cuts_A mo_at_A mo_first_A mo_kept_A mo_isKept_A mo_people mo_shots mo_looks mo_bride mo_hands mo_period mo_shut mo_phase mo_flash mo_quarters mo_tired mo_rows mo_columns mo_rise mo_tall mo_pairs mo_pad mo_padMany mo_cuts mo_at mo_first mo_kept mo_isKept mo_keptAt mo_isWriting p1 H.size mo_people_2 mo_shots_3 mo_bride_4 mo_hands_5 mo_period_6 mo_shut_7 mo_phase_8 mo_quarters_9 mo_tall_10 mo_pairs_11 hv22) F_X9_begin rfl rfl tw_707 tw_709 tp_21 hP hD hS hA [0, 1, 2, 3, 4, 5, 6, 7, 8, 9, 10, 11, 12, 13] [] [0, 1, 2, 3, 4, 5, 6, 7, 8, 9, 10, 11, 12, 13] rfl rfl (by decide) (by decide) (by decide) rfl (by decide) ⟨by decide, by decide⟩ rfl hl.1 (Nat.le_of_ble_eq_true rfl) ⟨by decide, by decide⟩ rfl dX9_people_22 (fun H locs hP hD hS => ?_)
    refine lv_iload_n (pc := 25) hx hb dX9_people_25 rfl (lv_at hl 0 rfl) ?_
    cases hf
    exact hQ _ _ _ _ _ dX9_people_26 rfl hP hD hS
  · refine lv_bipush (pc := 12) (v := (-2 : Int32)) hx hb dX9_people_12 (by decide) ?_
    cases hf
    exact hQ _ _ _ _ _ dX9_people_14 rfl hP hD hS
theorem F_X9_bride : CalF yX9_bride cX9_bride 3 (some .int) 1 := ⟨tw_799, tw_10, by decide +kernel⟩
set_option maxRecDepth 100000 in
set_option maxHeartbeats 4000000 in
theorem c_X9_bride (l : Launch) (D : va_G) (cI cJ cZ cS : ClassId) (mo_A mo_looks_A mo_period_A mo_shut_A mo_phase_A mo_quarters_A mo_tall_A mo_pairs_A mo_pad_A mo_cuts_A mo_at_A mo_first_A mo_kept_A mo_isKept_A : Nat) (mo_people : Int32) (mo_shots : Int32) (mo_looks : Nat → Int32) (mo_bride : Int32) (mo_hands : Int32) (mo_period : Nat → Int32) (mo_shut : Nat → Int32) (mo_phase : Nat → Int32) (mo_flash : Int32) (mo_quarters : Nat → Int32) (mo_tired : Int32) (mo_rows : Int32) (mo_columns : Int32) (mo_rise : Int32) (mo_tall : Nat → Int32) (mo_pairs : Nat → Int32) (mo_pad : Nat → Int32) (mo_padMany : Int32) (mo_cuts : Nat → Int32) (mo_at : Nat → Int32) (mo_first : Nat → Int32) (mo_kept : Nat → Int32) (mo_isKept : Nat → Int32) (mo_keptAt : Int32) (mo_isWriting : Int32) (p1 : Int32) (sz : Nat) (r : Int32) (r_mo_bride : Int32) (hf : f_X9_bride mo_people mo_bride p1 = some (r, r_mo_bride)) : RwC l D cI cJ cZ cS yX9_bride cX9_bride 3 (some .int) 2 46 (w_X9 cI cJ cZ cS mo_A mo_looks_A mo_period_A mo_shut_A mo_phase_A mo_quarters_A mo_tall_A mo_pairs_A mo_pad_A mo_cuts_A mo_at_A mo_first_A mo_kept_A mo_isKept_A mo_people mo_shots mo_looks mo_bride mo_hands mo_period mo_shut mo_phase mo_flash mo_quarters mo_tired mo_rows mo_columns mo_rise mo_tall mo_pairs mo_pad mo_padMany mo_cuts mo_at mo_first mo_kept mo_isKept mo_keptAt mo_isWriting) sz [.ref mo_A, .int p1] (some (.int r)) (w_X9 cI cJ cZ cS mo_A mo_looks_A mo_period_A mo_shut_A mo_phase_A mo_quarters_A mo_tall_A mo_pairs_A mo_pad_A mo_cuts_A mo_at_A mo_first_A mo_kept_A mo_isKept_A mo_people mo_shots mo_looks r_mo_bride mo_hands mo_period mo_shut mo_phase mo_flash mo_quarters mo_tired mo_rows mo_columns mo_rise mo_tall mo_pairs mo_pad mo_padMany mo_cuts mo_at mo_first mo_kept mo_isKept mo_keptAt mo_isWriting) := by
  refine rw_in_i (own := RX9) (by decide +kernel) rfl (Nat.le_of_ble_eq_true rfl) ?_
  intro p e s m args below meth c ls Q A E hA hQ hP hD hS hl
  obtain ⟨hx, hb, hml, hown, hts, hK, hN, hAO⟩ := id E
  have hl : lv_has ls 3 [(0, .ref mo_A), (1, .int p1)] := hl
  unfold f_X9_bride at hf
  obtain ⟨H, hH⟩ : ∃ H, H = s.heap := ⟨_, rfl⟩
  obtain ⟨locs, hlocs⟩ : ∃ L : List Loc, L = [] := ⟨_, rfl⟩
  rw [show W p l e (roR 2 46) s m args below meth c s.heap [] 0 0 Q (F0 m 0 ls []) = W p l e (roR 2 46) s m args below meth c H locs 0 0 Q (F0 m 0 ls []) by rw [hH, hlocs]]
  replace hS : va_S A s.heap H locs := by rw [hH, hlocs]; exact hS
  replace hP : va_P D vwCl (w_X9 cI cJ cZ cS mo_A mo_looks_A mo_period_A mo_shut_A mo_phase_A mo_quarters_A mo_tall_A mo_pairs_A mo_pad_A mo_cuts_A mo_at_A mo_first_A mo_kept_A mo_isKept_A mo_people mo_shots mo_looks mo_bride mo_hands mo_period mo_shut mo_phase mo_flash mo_quarters mo_tired mo_rows mo_columns mo_rise mo_tall mo_pairs mo_pad mo_padMany mo_cuts mo_at mo_first mo_kept mo_isKept mo_keptAt mo_isWriting) H := by rw [hH]; exact hP
  clear hH hlocs
  refine lv_iload_n (pc := 0) hx hb dX9_bride_0 rfl (lv_at hl 1 rfl) ?_
  refine lv_iconst (pc := 1) (v := (-1 : Int32)) hx hb dX9_bride_1 (by decide) ?_
  obtain ⟨k1, hk1, hf⟩ := lc0_e hf
  have K1 : ∀  (H : Heap) (locs : List Loc) (ls : Array Slot), k1 = some (r, r_mo_bride) → va_P D vwCl (w_X9 cI cJ cZ cS mo_A mo_looks_A mo_period_A mo_shut_A mo_phase_A mo_quarters_A mo_tall_A mo_pairs_A mo_pad_A mo_cuts_A mo_at_A mo_first_A mo_kept_A mo_isKept_A mo_people mo_shots mo_looks mo_bride mo_hands mo_period mo_shut mo_phase mo_flash mo_quarters mo_tired mo_rows mo_columns mo_rise mo_tall mo_pairs mo_pad mo_padMany mo_cuts mo_at mo_first mo_kept mo_isKept mo_keptAt mo_isWriting) H → va_D A (w_X9 cI cJ cZ cS mo_A mo_looks_A mo_period_A mo_shut_A mo_phase_A mo_quarters_A mo_tall_A mo_pairs_A mo_pad_A mo_cuts_A mo_at_A mo_first_A mo_kept_A mo_isKept_A mo_people mo_shots mo_looks mo_bride mo_hands mo_period mo_shut mo_phase mo_flash mo_quarters mo_tired mo_rows mo_columns mo_rise mo_tall mo_pairs mo_pad mo_padMany mo_cuts mo_at mo_first mo_kept mo_isKept mo_keptAt mo_isWriting) → va_S A s.heap H locs → lv_has ls 3 [(0, .ref mo_A), (1, .int p1)] → W p l e (roR 2 46) s m args below meth c H locs 0 0 Q (F0 m 15 ls []) := by
    intro  H locs ls hf hP hD hS hl
    rw [hk1] at hf
    refine lv_aload_n (pc := 15) hx hb dX9_bride_15 rfl (lv_at hl 0 rfl) ?_
    refine va_get (pc := 16) (D := D) (ci := 9) (v := .int mo_bride) (C := RX9) (T := TX9) (N := 25) hx hb hts inG9 hown hK hP 0 rfl rfl 3 (by decide) (hts _ tw_714) (fun _ h9 => h9) rfl dX9_bride_16 ?_
    refine lv_istore_n (pc := 19) (lv' := [(2, .int mo_bride), (0, .ref mo_A), (1, .int p1)]) hx hb dX9_bride_19 rfl hl (by decide) rfl (fun ls hl => ?_)
    refine lv_aload_n (pc := 20) hx hb dX9_bride_20 rfl (lv_at hl 1 rfl) ?_
    refine lv_iload_n (pc := 21) hx hb dX9_bride_21 rfl (lv_at hl 2 rfl) ?_
    refine lv_iconst (pc := 22) (v := (-1 : Int32)) hx hb dX9_bride_22 (by decide) ?_
    obtain ⟨k3, hk3, hf⟩ := lc1_e hf
    have K3 : ∀ (x4 : Int32) (H : Heap) (locs : List Loc) (ls : Array Slot), k3 x4 = some (r, r_mo_bride) → va_P D vwCl (w_X9 cI cJ cZ cS mo_A mo_looks_A mo_period_A mo_shut_A mo_phase_A mo_quarters_A mo_tall_A mo_pairs_A mo_pad_A mo_cuts_A mo_at_A mo_first_A mo_kept_A mo_isKept_A mo_people mo_shots mo_looks mo_bride mo_hands mo_period mo_shut mo_phase mo_flash mo_quarters mo_tired mo_rows mo_columns mo_rise mo_tall mo_pairs mo_pad mo_padMany mo_cuts mo_at mo_first mo_kept mo_isKept mo_keptAt mo_isWriting) H → va_D A (w_X9 cI cJ cZ cS mo_A mo_looks_A mo_period_A mo_shut_A mo_phase_A mo_quarters_A mo_tall_A mo_pairs_A mo_pad_A mo_cuts_A mo_at_A mo_first_A mo_kept_A mo_isKept_A mo_people mo_shots mo_looks mo_bride mo_hands mo_period mo_shut mo_phase mo_flash mo_quarters mo_tired mo_rows mo_columns mo_rise mo_tall mo_pairs mo_pad mo_padMany mo_cuts mo_at mo_first mo_kept mo_isKept mo_keptAt mo_isWriting) → va_S A s.heap H locs → lv_has ls 3 [(2, .int mo_bride)] → W p l e (roR 2 46) s m args below meth c H locs 0 0 Q (F0 m 32 ls [.int x4, .ref mo_A]) := by
      intro x4 H locs ls hf hP hD hS hl
      rw [hk3] at hf
      refine va_put (pc := 32) (D := D) (ci := 9) (v := .int x4) (ty := .int) (C := RX9) (T := TX9) (N := 25) hx hb hts inG9 tyX9 tyX9_ok nmX9 hown hK hP hD hS 0 rfl rfl 3 (by decide) (hts _ tw_714) (fun _ h9 => h9) rfl (by decide +kernel) rfl rfl (Nat.le_of_ble_eq_true rfl) dX9_bride_32 (fun H locs hP hD hS => ?_)
      have hP : va_P D vwCl (w_X9 cI cJ cZ cS mo_A mo_looks_A mo_period_A mo_shut_A mo_phase_A mo_quarters_A mo_tall_A mo_pairs_A mo_pad_A mo_cuts_A mo_at_A mo_first_A mo_kept_A mo_isKept_A mo_people mo_shots mo_looks x4 mo_hands mo_period mo_shut mo_phase mo_flash mo_quarters mo_tired mo_rows mo_columns mo_rise mo_tall mo_pairs mo_pad mo_padMany mo_cuts mo_at mo_first mo_kept mo_isKept mo_keptAt mo_isWriting) H := hP
      have hD : va_D A (w_X9 cI cJ cZ cS mo_A mo_looks_A mo_period_A mo_shut_A mo_phase_A mo_quarters_A mo_tall_A mo_pairs_A mo_pad_A mo_cuts_A mo_at_A mo_first_A mo_kept_A mo_isKept_A mo_people mo_shots mo_looks x4 mo_hands mo_period mo_shut mo_phase mo_flash mo_quarters mo_tired mo_rows mo_columns mo_rise mo_tall mo_pairs mo_pad mo_padMany mo_cuts mo_at mo_first mo_kept mo_isKept mo_keptAt mo_isWriting) := hD
      refine lv_iload_n (pc := 35) hx hb dX9_bride_35 rfl (lv_at hl 0 rfl) ?_
      cases hf
      exact hQ _ _ _ _ _ dX9_bride_36 rfl hP hD hS
    refine r_ic_ne (pc := 23) (tgt := 31) hx hb dX9_bride_23 (by decide) hf (fun hf => ?_) (fun hf => ?_)
    · refine lv_iload_n (pc := 31) hx hb dX9_bride_31 rfl (lv_at hl 2 rfl) ?_
      exact K3 _ _ _ _ hf hP hD hS (lv_sub hl [0] rfl)
    · refine lv_bipush (pc := 26) (v := (-6 : Int32)) hx hb dX9_bride_26 (by decide) ?_
      refine lv_goto (pc := 28) (tgt := 32) hx hb dX9_bride_28 (by decide) ?_
      exact K3 _ _ _ _ hf hP hD hS (lv_sub hl [0] rfl)
  refine r_ic_eq (pc := 2) (tgt := 15) hx hb dX9_bride_2 (by decide) hf (fun hf => ?_) (fun hf => ?_)
  · exact K1  _ _ _ hf hP hD hS hl
  · refine lv_aload_n (pc := 5) hx hb dX9_bride_5 rfl (lv_at hl 0 rfl) ?_
    refine lv_iload_n (pc := 6) hx hb dX9_bride_6 rfl (lv_at hl 1 rfl) ?_
    obtain ⟨v2, hv7, hf⟩ := bd_e hf
    refine ro_Vi (pc := 7) (As := [.int p1]) (rest := []) E (c_X9_isPerson l D cI cJ cZ cS mo_A mo_looks_A mo_period_A mo_shut_A mo_phase_A mo_quarters_A mo_tall_A mo_pairs_A mo_pad_A mo_cuts_A mo_at_A mo_first_A mo_kept_A mo_isKept_A mo_people mo_shots mo_looks mo_bride mo_hands mo_period mo_shut mo_phase mo_flash mo_quarters mo_tired mo_rows mo_columns mo_rise mo_tall mo_pairs mo_pad mo_padMany mo_cuts mo_at mo_first mo_kept mo_isKept mo_keptAt mo_isWriting p1 v2 hv7) F_X9_isPerson rfl rfl tw_800 tw_802 tp_22 hP ⟨by decide, by decide⟩ rfl hl.1 (Nat.le_of_ble_eq_true rfl) ⟨by decide, by decide⟩ rfl dX9_bride_7 ?_
    refine r_if_ne (pc := 10) (tgt := 15) hx hb dX9_bride_10 (by decide) hf (fun hf => ?_) (fun hf => ?_)
    · exact K1  _ _ _ hf hP hD hS hl
    · refine lv_iconst (pc := 13) (v := (-1 : Int32)) hx hb dX9_bride_13 (by decide) ?_
      cases hf
      exact hQ _ _ _ _ _ dX9_bride_14 rfl hP hD hS
theorem F_X9_say : CalF yX9_say cX9_say 2 (some .int) 1 := ⟨tw_807, tw_10, by decide +kernel⟩
set_option maxRecDepth 100000 in
set_option maxHeartbeats 4000000 in
theorem c_X9_say (l : Launch) (D : va_G) (cI cJ cZ cS : ClassId) (mo_A mo_looks_A mo_period_A mo_shut_A mo_phase_A mo_quarters_A mo_tall_A mo_pairs_A mo_pad_A mo_cuts_A mo_at_A mo_first_A mo_kept_A mo_isKept_A : Nat) (mo_people : Int32) (mo_shots : Int32) (mo_looks : Nat → Int32) (mo_bride : Int32) (mo_hands : Int32) (mo_period : Nat → Int32) (mo_shut : Nat → Int32) (mo_phase : Nat → Int32) (mo_flash : Int32) (mo_quarters : Nat → Int32) (mo_tired : Int32) (mo_rows : Int32) (mo_columns : Int32) (mo_rise : Int32) (mo_tall : Nat → Int32) (mo_pairs : Nat → Int32) (mo_pad : Nat → Int32) (mo_padMany : Int32) (mo_cuts : Nat → Int32) (mo_at : Nat → Int32) (mo_first : Nat → Int32) (mo_kept : Nat → Int32) (mo_isKept : Nat → Int32) (mo_keptAt : Int32) (mo_isWriting : Int32) (p1 : Int32) (sz : Nat) (r : Int32) (r_mo_padMany : Int32) (r_mo_pad : Nat → Int32) (hf : f_X9_say mo_pad mo_padMany p1 = some (r, r_mo_padMany, r_mo_pad)) : RwC l D cI cJ cZ cS yX9_say cX9_say 2 (some .int) 1 25 (w_X9 cI cJ cZ cS mo_A mo_looks_A mo_period_A mo_shut_A mo_phase_A mo_quarters_A mo_tall_A mo_pairs_A mo_pad_A mo_cuts_A mo_at_A mo_first_A mo_kept_A mo_isKept_A mo_people mo_shots mo_looks mo_bride mo_hands mo_period mo_shut mo_phase mo_flash mo_quarters mo_tired mo_rows mo_columns mo_rise mo_tall mo_pairs mo_pad mo_padMany mo_cuts mo_at mo_first mo_kept mo_isKept mo_keptAt mo_isWriting) sz [.ref mo_A, .int p1] (some (.int r)) (w_X9 cI cJ cZ cS mo_A mo_looks_A mo_period_A mo_shut_A mo_phase_A mo_quarters_A mo_tall_A mo_pairs_A mo_pad_A mo_cuts_A mo_at_A mo_first_A mo_kept_A mo_isKept_A mo_people mo_shots mo_looks mo_bride mo_hands mo_period mo_shut mo_phase mo_flash mo_quarters mo_tired mo_rows mo_columns mo_rise mo_tall mo_pairs r_mo_pad r_mo_padMany mo_cuts mo_at mo_first mo_kept mo_isKept mo_keptAt mo_isWriting) := by
  refine rw_in_i (own := RX9) (by decide +kernel) rfl (Nat.le_of_ble_eq_true rfl) ?_
  intro p e s m args below meth c ls Q A E hA hQ hP hD hS hl
  obtain ⟨hx, hb, hml, hown, hts, hK, hN, hAO⟩ := id E
  have hl : lv_has ls 2 [(0, .ref mo_A), (1, .int p1)] := hl
  unfold f_X9_say at hf
  obtain ⟨H, hH⟩ : ∃ H, H = s.heap := ⟨_, rfl⟩
  obtain ⟨locs, hlocs⟩ : ∃ L : List Loc, L = [] := ⟨_, rfl⟩
  rw [show W p l e (roR 1 25) s m args below meth c s.heap [] 0 0 Q (F0 m 0 ls []) = W p l e (roR 1 25) s m args below meth c H locs 0 0 Q (F0 m 0 ls []) by rw [hH, hlocs]]
  replace hS : va_S A s.heap H locs := by rw [hH, hlocs]; exact hS
  replace hP : va_P D vwCl (w_X9 cI cJ cZ cS mo_A mo_looks_A mo_period_A mo_shut_A mo_phase_A mo_quarters_A mo_tall_A mo_pairs_A mo_pad_A mo_cuts_A mo_at_A mo_first_A mo_kept_A mo_isKept_A mo_people mo_shots mo_looks mo_bride mo_hands mo_period mo_shut mo_phase mo_flash mo_quarters mo_tired mo_rows mo_columns mo_rise mo_tall mo_pairs mo_pad mo_padMany mo_cuts mo_at mo_first mo_kept mo_isKept mo_keptAt mo_isWriting) H := by rw [hH]; exact hP
  clear hH hlocs
  refine lv_iload_n (pc := 0) hx hb dX9_say_0 rfl (lv_at hl 1 rfl) ?_
  refine lv_i2l (pc := 1) (v := (Int32.toInt64 p1)) hx hb dX9_say_1 rfl ?_
  refine lv_ldc2 (pc := 2) hx hb hown (hts _ tw_808) dX9_say_2 ?_
  refine lv_ldc2 (pc := 5) hx hb hown (hts _ tw_809) dX9_say_5 ?_
  obtain ⟨v1, hv8, hf⟩ := bd_e hf
  refine ro_Si (pc := 8) (As := [.long (Int32.toInt64 p1), .long (33 : Int64), .long (126 : Int64)]) (rest := []) E (c_X9_in l D cI cJ cZ cS (Int32.toInt64 p1) (33 : Int64) (126 : Int64) v1 hv8) F_X9_in tw_793 tw_794  va_P_nil ⟨by decide, by decide⟩ rfl hl.1 (Nat.le_of_ble_eq_true rfl) ⟨by decide, by decide⟩ rfl dX9_say_8 ?_
  refine r_if_ne (pc := 11) (tgt := 17) hx hb dX9_say_11 (by decide) hf (fun hf => ?_) (fun hf => ?_)
  · refine lv_aload_n (pc := 17) hx hb dX9_say_17 rfl (lv_at hl 0 rfl) ?_
    refine va_get (pc := 18) (D := D) (ci := 9) (v := .int mo_padMany) (C := RX9) (T := TX9) (N := 25) hx hb hts inG9 hown hK hP 0 rfl rfl 17 (by decide) (hts _ tw_728) (fun _ h9 => h9) rfl dX9_say_18 ?_
    refine lv_bipush (pc := 21) (v := (40 : Int32)) hx hb dX9_say_21 (by decide) ?_
    refine r_ic_ne (pc := 23) (tgt := 29) hx hb dX9_say_23 (by decide) hf (fun hf => ?_) (fun hf => ?_)
    · refine lv_aload_n (pc := 29) hx hb dX9_say_29 rfl (lv_at hl 0 rfl) ?_
      refine va_get (pc := 30) (D := D) (ci := 9) (v := .ref mo_pad_A) (C := RX9) (T := TX9) (N := 25) hx hb hts inG9 hown hK hP 0 rfl rfl 16 (by decide) (hts _ tw_727) (fun _ h9 => h9) rfl dX9_say_30 ?_
      refine lv_aload_n (pc := 33) hx hb dX9_say_33 rfl (lv_at hl 0 rfl) ?_
      refine va_get (pc := 34) (D := D) (ci := 9) (v := .int mo_padMany) (C := RX9) (T := TX9) (N := 25) hx hb hts inG9 hown hK hP 0 rfl rfl 17 (by decide) (hts _ tw_728) (fun _ h9 => h9) rfl dX9_say_34 ?_
      refine lv_iload_n (pc := 37) hx hb dX9_say_37 rfl (lv_at hl 1 rfl) ?_
      refine r_iast (pc := 38) hx hb hK hP hD hS 8 0 rfl rfl hf dX9_say_38 (fun mo_pad_2 H locs hf hP hD hS => ?_)
      have hP : va_P D vwCl (w_X9 cI cJ cZ cS mo_A mo_looks_A mo_period_A mo_shut_A mo_phase_A mo_quarters_A mo_tall_A mo_pairs_A mo_pad_A mo_cuts_A mo_at_A mo_first_A mo_kept_A mo_isKept_A mo_people mo_shots mo_looks mo_bride mo_hands mo_period mo_shut mo_phase mo_flash mo_quarters mo_tired mo_rows mo_columns mo_rise mo_tall mo_pairs mo_pad_2 mo_padMany mo_cuts mo_at mo_first mo_kept mo_isKept mo_keptAt mo_isWriting) H := hP
      have hD : va_D A (w_X9 cI cJ cZ cS mo_A mo_looks_A mo_period_A mo_shut_A mo_phase_A mo_quarters_A mo_tall_A mo_pairs_A mo_pad_A mo_cuts_A mo_at_A mo_first_A mo_kept_A mo_isKept_A mo_people mo_shots mo_looks mo_bride mo_hands mo_period mo_shut mo_phase mo_flash mo_quarters mo_tired mo_rows mo_columns mo_rise mo_tall mo_pairs mo_pad_2 mo_padMany mo_cuts mo_at mo_first mo_kept mo_isKept mo_keptAt mo_isWriting) := hD
      refine lv_aload_n (pc := 39) hx hb dX9_say_39 rfl (lv_at hl 0 rfl) ?_
      refine lv_dup (pc := 40) hx hb dX9_say_40 rfl ?_
      refine va_get (pc := 41) (D := D) (ci := 9) (v := .int mo_padMany) (C := RX9) (T := TX9) (N := 25) hx hb hts inG9 hown hK hP 0 rfl rfl 17 (by decide) (hts _ tw_728) (fun _ h9 => h9) rfl dX9_say_41 ?_
      refine lv_iconst (pc := 44) (v := (1 : Int32)) hx hb dX9_say_44 (by decide) ?_
      refine lv_iadd (pc := 45) hx hb dX9_say_45 ?_
      refine va_put (pc := 46) (D := D) (ci := 9) (v := .int (mo_padMany + (1 : Int32))) (ty := .int) (C := RX9) (T := TX9) (N := 25) hx hb hts inG9 tyX9 tyX9_ok nmX9 hown hK hP hD hS 0 rfl rfl 17 (by decide) (hts _ tw_728) (fun _ h9 => h9) rfl (by decide +kernel) rfl rfl (Nat.le_of_ble_eq_true rfl) dX9_say_46 (fun H locs hP hD hS => ?_)
      have hP : va_P D vwCl (w_X9 cI cJ cZ cS mo_A mo_looks_A mo_period_A mo_shut_A mo_phase_A mo_quarters_A mo_tall_A mo_pairs_A mo_pad_A mo_cuts_A mo_at_A mo_first_A mo_kept_A mo_isKept_A mo_people mo_shots mo_looks mo_bride mo_hands mo_period mo_shut mo_phase mo_flash mo_quarters mo_tired mo_rows mo_columns mo_rise mo_tall mo_pairs mo_pad_2 (mo_padMany + (1 : Int32)) mo_cuts mo_at mo_first mo_kept mo_isKept mo_keptAt mo_isWriting) H := hP
      have hD : va_D A (w_X9 cI cJ cZ cS mo_A mo_looks_A mo_period_A mo_shut_A mo_phase_A mo_quarters_A mo_tall_A mo_pairs_A mo_pad_A mo_cuts_A mo_at_A mo_first_A mo_kept_A mo_isKept_A mo_people mo_shots mo_looks mo_bride mo_hands mo_period mo_shut mo_phase mo_flash mo_quarters mo_tired mo_rows mo_columns mo_rise mo_tall mo_pairs mo_pad_2 (mo_padMany + (1 : Int32)) mo_cuts mo_at mo_first mo_kept mo_isKept mo_keptAt mo_isWriting) := hD
      refine lv_aload_n (pc := 49) hx hb dX9_say_49 rfl (lv_at hl 0 rfl) ?_
      refine va_get (pc := 50) (D := D) (ci := 9) (v := .int (mo_padMany + (1 : Int32))) (C := RX9) (T := TX9) (N := 25) hx hb hts inG9 hown hK hP 0 rfl rfl 17 (by decide) (hts _ tw_728) (fun _ h9 => h9) rfl dX9_say_50 ?_
      cases hf
      exact hQ _ _ _ _ _ dX9_say_53 rfl hP hD hS
    · refine lv_bipush (pc := 26) (v := (-4 : Int32)) hx hb dX9_say_26 (by decide) ?_
      cases hf
      exact hQ _ _ _ _ _ dX9_say_28 rfl hP hD hS
  · refine lv_bipush (pc := 14) (v := (-2 : Int32)) hx hb dX9_say_14 (by decide) ?_
    cases hf
    exact hQ _ _ _ _ _ dX9_say_16 rfl hP hD hS
