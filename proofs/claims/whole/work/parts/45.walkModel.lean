theorem F_X9_noneOf : CalF yX9_noneOf cX9_noneOf 5 (some .long) 1 := ⟨tw_959, tw_10, by decide +kernel⟩
set_option maxRecDepth 100000 in
set_option maxHeartbeats 4000000 in
theorem c_X9_noneOf (l : Launch) (D : va_G) (cI cJ cZ cS : ClassId) (N : Nat) (mo_A mo_looks_A mo_period_A mo_shut_A mo_phase_A mo_quarters_A mo_tall_A mo_pairs_A mo_pad_A mo_cuts_A mo_at_A mo_first_A mo_kept_A mo_isKept_A : Nat) (mo_people : Int32) (mo_shots : Int32) (mo_looks : Nat → Int32) (mo_bride : Int32) (mo_hands : Int32) (mo_period : Nat → Int32) (mo_shut : Nat → Int32) (mo_phase : Nat → Int32) (mo_flash : Int32) (mo_quarters : Nat → Int32) (mo_tired : Int32) (mo_rows : Int32) (mo_columns : Int32) (mo_rise : Int32) (mo_tall : Nat → Int32) (mo_pairs : Nat → Int32) (mo_pad : Nat → Int32) (mo_padMany : Int32) (mo_cuts : Nat → Int32) (mo_at : Nat → Int32) (mo_first : Nat → Int32) (mo_kept : Nat → Int32) (mo_isKept : Nat → Int32) (mo_keptAt : Int32) (mo_isWriting : Int32) (p1 : Int32) (r : Int64) (hf : f_X9_noneOf N mo_people mo_quarters mo_tired p1 = some r) : RoC l D cI cJ cZ cS yX9_noneOf cX9_noneOf 5 (some .long) 2 47 (w_X9 cI cJ cZ cS mo_A mo_looks_A mo_period_A mo_shut_A mo_phase_A mo_quarters_A mo_tall_A mo_pairs_A mo_pad_A mo_cuts_A mo_at_A mo_first_A mo_kept_A mo_isKept_A mo_people mo_shots mo_looks mo_bride mo_hands mo_period mo_shut mo_phase mo_flash mo_quarters mo_tired mo_rows mo_columns mo_rise mo_tall mo_pairs mo_pad mo_padMany mo_cuts mo_at mo_first mo_kept mo_isKept mo_keptAt mo_isWriting) [.ref mo_A, .int p1] (some (.long r)) := by
  refine ro_in_l (own := RX9) (by decide +kernel) rfl (Nat.le_of_ble_eq_true rfl) ?_
  intro p e s m args below meth c ls Q E hQ hP hl
  obtain ⟨hx, hb, hml, hown, hts, hK, hN, hAO⟩ := id E
  have hl : lv_has ls 5 [(0, .ref mo_A), (1, .int p1)] := hl
  unfold f_X9_noneOf at hf
  refine lv_lconst (pc := 0) (v := (1 : Int64)) hx hb dX9_noneOf_0 (by decide) ?_
  refine lv_lstore_n (pc := 1) (lv' := [(2, .long (1 : Int64)), (0, .ref mo_A), (1, .int p1)]) hx hb dX9_noneOf_1 rfl hl (by decide) rfl (fun ls hl => ?_)
  refine lv_iconst (pc := 2) (v := (0 : Int32)) hx hb dX9_noneOf_2 (by decide) ?_
  refine lv_istore (pc := 3) (lv' := [(4, .int (0 : Int32)), (2, .long (1 : Int64)), (0, .ref mo_A), (1, .int p1)]) hx hb dX9_noneOf_3 hl (by decide) rfl (fun ls hl => ?_)
  obtain ⟨k4, hk4, hf⟩ := lc1_e hf
  have K4 : ∀ (z5 : Int64) (ls : Array Slot), k4 z5 = some r → lv_has ls 5 [(2, .long z5)] → W p l e (roR 2 47) s m args below meth c s.heap [] 0 0 Q (F0 m 35 ls []) := by
    intro z5 ls hf hl
    rw [hk4] at hf
    refine lv_lload_n (pc := 35) hx hb dX9_noneOf_35 rfl (lv_at hl 0 rfl) ?_
    exact hQ _ _ _ dX9_noneOf_36 hf
  have L5 : ∀ (n : Nat), ∀ (y1 : Int64) (y2 : Int32) (ls : Array Slot), f_X9_noneOf_L5 mo_people mo_quarters mo_tired p1 N k4 n y1 y2 = some r → lv_has ls 5 [(0, .ref mo_A), (1, .int p1), (2, .long y1), (4, .int y2)] → W p l e (roR 2 47) s m args below meth c s.heap [] 0 0 Q (F0 m 5 ls []) := by
    intro n
    induction n with
    | zero =>
      intro y1 y2 ls hf
      rw [f_X9_noneOf_L5] at hf
      cases hf
    | succ n ih =>
      intro y1 y2 ls hf hl
      rw [f_X9_noneOf_L5] at hf
      refine lv_iload (pc := 5) hx hb dX9_noneOf_5 (lv_at hl 3 rfl) ?_
      refine lv_iload_n (pc := 7) hx hb dX9_noneOf_7 rfl (lv_at hl 1 rfl) ?_
      refine r_ic_ge (pc := 8) (tgt := 35) hx hb dX9_noneOf_8 (by decide) hf (fun hf => ?_) (fun hf => ?_)
      · exact K4 _ _ hf (lv_sub hl [2] rfl)
      · refine lv_lload_n (pc := 11) hx hb dX9_noneOf_11 rfl (lv_at hl 2 rfl) ?_
        refine lv_lconst (pc := 12) (v := (1 : Int64)) hx hb dX9_noneOf_12 (by decide) ?_
        refine lv_iconst (pc := 13) (v := (2 : Int32)) hx hb dX9_noneOf_13 (by decide) ?_
        refine lv_aload_n (pc := 14) hx hb dX9_noneOf_14 rfl (lv_at hl 0 rfl) ?_
        refine va_get (pc := 15) (D := D) (ci := 9) (v := .int mo_people) (C := RX9) (T := TX9) (N := 25) hx hb hts inG9 hown hK hP 0 rfl rfl 0 (by decide) (hts _ tw_711) (fun _ h9 => h9) rfl dX9_noneOf_15 ?_
        refine lv_imul (pc := 18) hx hb dX9_noneOf_18 ?_
        refine lv_lshl (pc := 19) (v := ((1 : Int64) <<< (Int32.toInt64 ((2 : Int32) * mo_people) &&& 63))) hx hb dX9_noneOf_19 rfl ?_
        refine lv_aload_n (pc := 20) hx hb dX9_noneOf_20 rfl (lv_at hl 0 rfl) ?_
        refine lv_iload (pc := 21) hx hb dX9_noneOf_21 (lv_at hl 3 rfl) ?_
        obtain ⟨v6, hv23, hf⟩ := bd_e hf
        refine ro_Vl (pc := 23) (As := [.int y2]) (rest := [.long ((1 : Int64) <<< (Int32.toInt64 ((2 : Int32) * mo_people) &&& 63)), .long y1]) E (c_X9_allOpen l D cI cJ cZ cS N mo_A mo_looks_A mo_period_A mo_shut_A mo_phase_A mo_quarters_A mo_tall_A mo_pairs_A mo_pad_A mo_cuts_A mo_at_A mo_first_A mo_kept_A mo_isKept_A mo_people mo_shots mo_looks mo_bride mo_hands mo_period mo_shut mo_phase mo_flash mo_quarters mo_tired mo_rows mo_columns mo_rise mo_tall mo_pairs mo_pad mo_padMany mo_cuts mo_at mo_first mo_kept mo_isKept mo_keptAt mo_isWriting y2 v6 hv23) F_X9_allOpen rfl rfl tw_940 tw_942 tp_36 hP ⟨by decide, by decide⟩ rfl hl.1 (Nat.le_of_ble_eq_true rfl) ⟨by decide, by decide⟩ rfl dX9_noneOf_23 ?_
        refine lv_lsub (pc := 26) hx hb dX9_noneOf_26 ?_
        refine lv_lmul (pc := 27) hx hb dX9_noneOf_27 ?_
        refine lv_lstore_n (pc := 28) (lv' := [(2, .long (y1 * (((1 : Int64) <<< (Int32.toInt64 ((2 : Int32) * mo_people) &&& 63)) - v6))), (0, .ref mo_A), (1, .int p1), (4, .int y2)]) hx hb dX9_noneOf_28 rfl hl (by decide) rfl (fun ls hl => ?_)
        refine lv_iinc (pc := 29) (v := (y2 + (1 : Int32))) (lv' := [(4, .int (y2 + (1 : Int32))), (2, .long (y1 * (((1 : Int64) <<< (Int32.toInt64 ((2 : Int32) * mo_people) &&& 63)) - v6))), (0, .ref mo_A), (1, .int p1)]) hx hb dX9_noneOf_29 hl (k := 3) rfl (by rfl) (by decide) rfl (fun ls hl => ?_)
        refine lv_goto (pc := 32) (tgt := 5) hx hb dX9_noneOf_32 (by decide) ?_
        exact ih _ _ _ hf (lv_sub hl [2, 3, 1, 0] rfl)
  exact L5 N _ _ _ hf (lv_sub hl [2, 3, 1, 0] rfl)
theorem F_X9_one : CalF yX9_one cX9_one 5 (some .long) 2 := ⟨tw_954, tw_10, by decide +kernel⟩
set_option maxRecDepth 100000 in
set_option maxHeartbeats 4000000 in
theorem c_X9_one (l : Launch) (D : va_G) (cI cJ cZ cS : ClassId) (N : Nat) (mo_A mo_looks_A mo_period_A mo_shut_A mo_phase_A mo_quarters_A mo_tall_A mo_pairs_A mo_pad_A mo_cuts_A mo_at_A mo_first_A mo_kept_A mo_isKept_A : Nat) (mo_people : Int32) (mo_shots : Int32) (mo_looks : Nat → Int32) (mo_bride : Int32) (mo_hands : Int32) (mo_period : Nat → Int32) (mo_shut : Nat → Int32) (mo_phase : Nat → Int32) (mo_flash : Int32) (mo_quarters : Nat → Int32) (mo_tired : Int32) (mo_rows : Int32) (mo_columns : Int32) (mo_rise : Int32) (mo_tall : Nat → Int32) (mo_pairs : Nat → Int32) (mo_pad : Nat → Int32) (mo_padMany : Int32) (mo_cuts : Nat → Int32) (mo_at : Nat → Int32) (mo_first : Nat → Int32) (mo_kept : Nat → Int32) (mo_isKept : Nat → Int32) (mo_keptAt : Int32) (mo_isWriting : Int32) (p1 : Int32) (p2 : Int32) (r : Int64) (hf : f_X9_one N mo_people mo_quarters mo_tired p1 p2 = some r) : RoC l D cI cJ cZ cS yX9_one cX9_one 5 (some .long) 3 71 (w_X9 cI cJ cZ cS mo_A mo_looks_A mo_period_A mo_shut_A mo_phase_A mo_quarters_A mo_tall_A mo_pairs_A mo_pad_A mo_cuts_A mo_at_A mo_first_A mo_kept_A mo_isKept_A mo_people mo_shots mo_looks mo_bride mo_hands mo_period mo_shut mo_phase mo_flash mo_quarters mo_tired mo_rows mo_columns mo_rise mo_tall mo_pairs mo_pad mo_padMany mo_cuts mo_at mo_first mo_kept mo_isKept mo_keptAt mo_isWriting) [.ref mo_A, .int p1, .int p2] (some (.long r)) := by
  refine ro_in_l (own := RX9) (by decide +kernel) rfl (Nat.le_of_ble_eq_true rfl) ?_
  intro p e s m args below meth c ls Q E hQ hP hl
  obtain ⟨hx, hb, hml, hown, hts, hK, hN, hAO⟩ := id E
  have hl : lv_has ls 5 [(0, .ref mo_A), (1, .int p1), (2, .int p2)] := hl
  unfold f_X9_one at hf
  refine lv_iload_n (pc := 0) hx hb dX9_one_0 rfl (lv_at hl 1 rfl) ?_
  refine lv_i2l (pc := 1) (v := (Int32.toInt64 p1)) hx hb dX9_one_1 rfl ?_
  refine lv_lconst (pc := 2) (v := (1 : Int64)) hx hb dX9_one_2 (by decide) ?_
  refine lv_ldc2 (pc := 3) hx hb hown (hts _ tw_955) dX9_one_3 ?_
  obtain ⟨v1, hv6, hf⟩ := bd_e hf
  refine ro_Si (pc := 6) (As := [.long (Int32.toInt64 p1), .long (1 : Int64), .long (3 : Int64)]) (rest := []) E (c_X9_in l D cI cJ cZ cS (Int32.toInt64 p1) (1 : Int64) (3 : Int64) v1 hv6) F_X9_in tw_793 tw_794  va_P_nil ⟨by decide, by decide⟩ rfl hl.1 (Nat.le_of_ble_eq_true rfl) ⟨by decide, by decide⟩ rfl dX9_one_6 ?_
  obtain ⟨k2, hk2, hf⟩ := lc0_e hf
  have K2 : ∀  (ls : Array Slot), k2 = some r → lv_has ls 5 [] → W p l e (roR 3 71) s m args below meth c s.heap [] 0 0 Q (F0 m 22 ls []) := by
    intro  ls hf hl
    rw [hk2] at hf
    refine lv_ldc2 (pc := 22) hx hb hown (hts _ tw_939) dX9_one_22 ?_
    exact hQ _ _ _ dX9_one_25 hf
  refine r_if_eq (pc := 9) (tgt := 22) hx hb dX9_one_9 (by decide) hf (fun hf => ?_) (fun hf => ?_)
  · exact K2  _ hf (lv_sub hl [] rfl)
  · refine lv_iload_n (pc := 12) hx hb dX9_one_12 rfl (lv_at hl 2 rfl) ?_
    refine lv_i2l (pc := 13) (v := (Int32.toInt64 p2)) hx hb dX9_one_13 rfl ?_
    refine lv_lconst (pc := 14) (v := (0 : Int64)) hx hb dX9_one_14 (by decide) ?_
    refine lv_lconst (pc := 15) (v := (1 : Int64)) hx hb dX9_one_15 (by decide) ?_
    obtain ⟨v3, hv16, hf⟩ := bd_e hf
    refine ro_Si (pc := 16) (As := [.long (Int32.toInt64 p2), .long (0 : Int64), .long (1 : Int64)]) (rest := []) E (c_X9_in l D cI cJ cZ cS (Int32.toInt64 p2) (0 : Int64) (1 : Int64) v3 hv16) F_X9_in tw_793 tw_794  va_P_nil ⟨by decide, by decide⟩ rfl hl.1 (Nat.le_of_ble_eq_true rfl) ⟨by decide, by decide⟩ rfl dX9_one_16 ?_
    refine r_if_ne (pc := 19) (tgt := 26) hx hb dX9_one_19 (by decide) hf (fun hf => ?_) (fun hf => ?_)
    · refine lv_lconst (pc := 26) (v := (1 : Int64)) hx hb dX9_one_26 (by decide) ?_
      refine lv_iconst (pc := 27) (v := (2 : Int32)) hx hb dX9_one_27 (by decide) ?_
      refine lv_aload_n (pc := 28) hx hb dX9_one_28 rfl (lv_at hl 0 rfl) ?_
      refine va_get (pc := 29) (D := D) (ci := 9) (v := .int mo_people) (C := RX9) (T := TX9) (N := 25) hx hb hts inG9 hown hK hP 0 rfl rfl 0 (by decide) (hts _ tw_711) (fun _ h9 => h9) rfl dX9_one_29 ?_
      refine lv_imul (pc := 32) hx hb dX9_one_32 ?_
      refine lv_iload_n (pc := 33) hx hb dX9_one_33 rfl (lv_at hl 1 rfl) ?_
      refine lv_imul (pc := 34) hx hb dX9_one_34 ?_
      refine lv_lshl (pc := 35) (v := ((1 : Int64) <<< (Int32.toInt64 (((2 : Int32) * mo_people) * p1) &&& 63))) hx hb dX9_one_35 rfl ?_
      refine lv_lstore_n (pc := 36) (lv' := [(3, .long ((1 : Int64) <<< (Int32.toInt64 (((2 : Int32) * mo_people) * p1) &&& 63))), (0, .ref mo_A), (1, .int p1), (2, .int p2)]) hx hb dX9_one_36 rfl hl (by decide) rfl (fun ls hl => ?_)
      refine lv_lload_n (pc := 37) hx hb dX9_one_37 rfl (lv_at hl 0 rfl) ?_
      refine lv_aload_n (pc := 38) hx hb dX9_one_38 rfl (lv_at hl 1 rfl) ?_
      refine lv_iload_n (pc := 39) hx hb dX9_one_39 rfl (lv_at hl 2 rfl) ?_
      obtain ⟨v4, hv40, hf⟩ := bd_e hf
      refine ro_Vl (pc := 40) (As := [.int p1]) (rest := [.long ((1 : Int64) <<< (Int32.toInt64 (((2 : Int32) * mo_people) * p1) &&& 63))]) E (c_X9_noneOf l D cI cJ cZ cS N mo_A mo_looks_A mo_period_A mo_shut_A mo_phase_A mo_quarters_A mo_tall_A mo_pairs_A mo_pad_A mo_cuts_A mo_at_A mo_first_A mo_kept_A mo_isKept_A mo_people mo_shots mo_looks mo_bride mo_hands mo_period mo_shut mo_phase mo_flash mo_quarters mo_tired mo_rows mo_columns mo_rise mo_tall mo_pairs mo_pad mo_padMany mo_cuts mo_at mo_first mo_kept mo_isKept mo_keptAt mo_isWriting p1 v4 hv40) F_X9_noneOf rfl rfl tw_956 tw_958 tp_38 hP ⟨by decide, by decide⟩ rfl hl.1 (Nat.le_of_ble_eq_true rfl) ⟨by decide, by decide⟩ rfl dX9_one_40 ?_
      refine lv_lsub (pc := 43) hx hb dX9_one_43 ?_
      refine lv_lload_n (pc := 44) hx hb dX9_one_44 rfl (lv_at hl 0 rfl) ?_
      refine lv_iload_n (pc := 45) hx hb dX9_one_45 rfl (lv_at hl 3 rfl) ?_
      obtain ⟨v5, hv46, hf⟩ := bd_e hf
      refine ro_Sl (pc := 46) (As := [.long (((1 : Int64) <<< (Int32.toInt64 (((2 : Int32) * mo_people) * p1) &&& 63)) - v4), .long ((1 : Int64) <<< (Int32.toInt64 (((2 : Int32) * mo_people) * p1) &&& 63)), .int p2]) (rest := []) E (c_X9_lowest l D cI cJ cZ cS N (((1 : Int64) <<< (Int32.toInt64 (((2 : Int32) * mo_people) * p1) &&& 63)) - v4) ((1 : Int64) <<< (Int32.toInt64 (((2 : Int32) * mo_people) * p1) &&& 63)) p2 v5 hv46) F_X9_lowest tw_948 tw_949  va_P_nil ⟨by decide, by decide⟩ rfl hl.1 (Nat.le_of_ble_eq_true rfl) ⟨by decide, by decide⟩ rfl dX9_one_46 ?_
      exact hQ _ _ _ dX9_one_49 hf
    · exact K2  _ hf (lv_sub hl [] rfl)
theorem F_X9_many : CalF yX9_many cX9_many 6 (some .int) 2 := ⟨tw_963, tw_10, by decide +kernel⟩
set_option maxRecDepth 100000 in
set_option maxHeartbeats 4000000 in
theorem c_X9_many (l : Launch) (D : va_G) (cI cJ cZ cS : ClassId) (N : Nat) (mo_A mo_looks_A mo_period_A mo_shut_A mo_phase_A mo_quarters_A mo_tall_A mo_pairs_A mo_pad_A mo_cuts_A mo_at_A mo_first_A mo_kept_A mo_isKept_A : Nat) (mo_people : Int32) (mo_shots : Int32) (mo_looks : Nat → Int32) (mo_bride : Int32) (mo_hands : Int32) (mo_period : Nat → Int32) (mo_shut : Nat → Int32) (mo_phase : Nat → Int32) (mo_flash : Int32) (mo_quarters : Nat → Int32) (mo_tired : Int32) (mo_rows : Int32) (mo_columns : Int32) (mo_rise : Int32) (mo_tall : Nat → Int32) (mo_pairs : Nat → Int32) (mo_pad : Nat → Int32) (mo_padMany : Int32) (mo_cuts : Nat → Int32) (mo_at : Nat → Int32) (mo_first : Nat → Int32) (mo_kept : Nat → Int32) (mo_isKept : Nat → Int32) (mo_keptAt : Int32) (mo_isWriting : Int32) (p1 : Int32) (p2 : Int32) (r : Int32) (hf : f_X9_many N mo_people mo_quarters mo_tired p1 p2 = some r) : RoC l D cI cJ cZ cS yX9_many cX9_many 6 (some .int) 3 71 (w_X9 cI cJ cZ cS mo_A mo_looks_A mo_period_A mo_shut_A mo_phase_A mo_quarters_A mo_tall_A mo_pairs_A mo_pad_A mo_cuts_A mo_at_A mo_first_A mo_kept_A mo_isKept_A mo_people mo_shots mo_looks mo_bride mo_hands mo_period mo_shut mo_phase mo_flash mo_quarters mo_tired mo_rows mo_columns mo_rise mo_tall mo_pairs mo_pad mo_padMany mo_cuts mo_at mo_first mo_kept mo_isKept mo_keptAt mo_isWriting) [.ref mo_A, .int p1, .int p2] (some (.int r)) := by
  refine ro_in_i (own := RX9) (by decide +kernel) rfl (Nat.le_of_ble_eq_true rfl) ?_
  intro p e s m args below meth c ls Q E hQ hP hl
  obtain ⟨hx, hb, hml, hown, hts, hK, hN, hAO⟩ := id E
  have hl : lv_has ls 6 [(0, .ref mo_A), (1, .int p1), (2, .int p2)] := hl
  unfold f_X9_many at hf
  refine lv_iload_n (pc := 0) hx hb dX9_many_0 rfl (lv_at hl 2 rfl) ?_
  refine lv_i2l (pc := 1) (v := (Int32.toInt64 p2)) hx hb dX9_many_1 rfl ?_
  refine lv_lconst (pc := 2) (v := (1 : Int64)) hx hb dX9_many_2 (by decide) ?_
  refine lv_ldc2 (pc := 3) hx hb hown (hts _ tw_964) dX9_many_3 ?_
  obtain ⟨v1, hv6, hf⟩ := bd_e hf
  refine ro_Si (pc := 6) (As := [.long (Int32.toInt64 p2), .long (1 : Int64), .long (100 : Int64)]) (rest := []) E (c_X9_in l D cI cJ cZ cS (Int32.toInt64 p2) (1 : Int64) (100 : Int64) v1 hv6) F_X9_in tw_793 tw_794  va_P_nil ⟨by decide, by decide⟩ rfl hl.1 (Nat.le_of_ble_eq_true rfl) ⟨by decide, by decide⟩ rfl dX9_many_6 ?_
  obtain ⟨k2, hk2, hf⟩ := lc0_e hf
  have K2 : ∀  (ls : Array Slot), k2 = some r → lv_has ls 6 [] → W p l e (roR 3 71) s m args below meth c s.heap [] 0 0 Q (F0 m 23 ls []) := by
    intro  ls hf hl
    rw [hk2] at hf
    refine lv_bipush (pc := 23) (v := (-2 : Int32)) hx hb dX9_many_23 (by decide) ?_
    exact hQ _ _ _ dX9_many_25 hf
  refine r_if_eq (pc := 9) (tgt := 23) hx hb dX9_many_9 (by decide) hf (fun hf => ?_) (fun hf => ?_)
  · exact K2  _ hf (lv_sub hl [] rfl)
  · refine lv_iload_n (pc := 12) hx hb dX9_many_12 rfl (lv_at hl 1 rfl) ?_
    refine lv_i2l (pc := 13) (v := (Int32.toInt64 p1)) hx hb dX9_many_13 rfl ?_
    refine lv_lconst (pc := 14) (v := (0 : Int64)) hx hb dX9_many_14 (by decide) ?_
    refine lv_iload_n (pc := 15) hx hb dX9_many_15 rfl (lv_at hl 2 rfl) ?_
    refine lv_i2l (pc := 16) (v := (Int32.toInt64 p2)) hx hb dX9_many_16 rfl ?_
    obtain ⟨v3, hv17, hf⟩ := bd_e hf
    refine ro_Si (pc := 17) (As := [.long (Int32.toInt64 p1), .long (0 : Int64), .long (Int32.toInt64 p2)]) (rest := []) E (c_X9_in l D cI cJ cZ cS (Int32.toInt64 p1) (0 : Int64) (Int32.toInt64 p2) v3 hv17) F_X9_in tw_793 tw_794  va_P_nil ⟨by decide, by decide⟩ rfl hl.1 (Nat.le_of_ble_eq_true rfl) ⟨by decide, by decide⟩ rfl dX9_many_17 ?_
    refine r_if_ne (pc := 20) (tgt := 26) hx hb dX9_many_20 (by decide) hf (fun hf => ?_) (fun hf => ?_)
    · refine lv_iconst (pc := 26) (v := (1 : Int32)) hx hb dX9_many_26 (by decide) ?_
      refine lv_istore_n (pc := 27) (lv' := [(3, .int (1 : Int32)), (0, .ref mo_A), (1, .int p1), (2, .int p2)]) hx hb dX9_many_27 rfl hl (by decide) rfl (fun ls hl => ?_)
      obtain ⟨k6, hk6, hf⟩ := lc0_e hf
      have K6 : ∀  (ls : Array Slot), k6 = some r → lv_has ls 6 [] → W p l e (roR 3 71) s m args below meth c s.heap [] 0 0 Q (F0 m 73 ls []) := by
        intro  ls hf hl
        rw [hk6] at hf
        refine lv_bipush (pc := 73) (v := (-6 : Int32)) hx hb dX9_many_73 (by decide) ?_
        exact hQ _ _ _ dX9_many_75 hf
      have L28 : ∀ (n : Nat), ∀ (y4 : Int32) (ls : Array Slot), f_X9_many_L28 mo_people mo_quarters mo_tired p1 p2 N k6 n y4 = some r → lv_has ls 6 [(0, .ref mo_A), (1, .int p1), (2, .int p2), (3, .int y4)] → W p l e (roR 3 71) s m args below meth c s.heap [] 0 0 Q (F0 m 28 ls []) := by
        intro n
        induction n with
        | zero =>
          intro y4 ls hf
          rw [f_X9_many_L28] at hf
          cases hf
        | succ n ih =>
          intro y4 ls hf hl
          rw [f_X9_many_L28] at hf
          refine lv_iload_n (pc := 28) hx hb dX9_many_28 rfl (lv_at hl 3 rfl) ?_
          refine lv_iconst (pc := 29) (v := (4 : Int32)) hx hb dX9_many_29 (by decide) ?_
          refine r_ic_ge (pc := 30) (tgt := 73) hx hb dX9_many_30 (by decide) hf (fun hf => ?_) (fun hf => ?_)
          · exact K6  _ hf (lv_sub hl [] rfl)
          · refine lv_lconst (pc := 33) (v := (1 : Int64)) hx hb dX9_many_33 (by decide) ?_
            refine lv_iconst (pc := 34) (v := (2 : Int32)) hx hb dX9_many_34 (by decide) ?_
            refine lv_aload_n (pc := 35) hx hb dX9_many_35 rfl (lv_at hl 0 rfl) ?_
            refine va_get (pc := 36) (D := D) (ci := 9) (v := .int mo_people) (C := RX9) (T := TX9) (N := 25) hx hb hts inG9 hown hK hP 0 rfl rfl 0 (by decide) (hts _ tw_711) (fun _ h9 => h9) rfl dX9_many_36 ?_
            refine lv_imul (pc := 39) hx hb dX9_many_39 ?_
            refine lv_iload_n (pc := 40) hx hb dX9_many_40 rfl (lv_at hl 3 rfl) ?_
            refine lv_imul (pc := 41) hx hb dX9_many_41 ?_
            refine lv_lshl (pc := 42) (v := ((1 : Int64) <<< (Int32.toInt64 (((2 : Int32) * mo_people) * y4) &&& 63))) hx hb dX9_many_42 rfl ?_
            refine lv_lstore (pc := 43) (lv' := [(4, .long ((1 : Int64) <<< (Int32.toInt64 (((2 : Int32) * mo_people) * y4) &&& 63))), (0, .ref mo_A), (1, .int p1), (2, .int p2), (3, .int y4)]) hx hb dX9_many_43 hl (by decide) rfl (fun ls hl => ?_)
            refine lv_lload (pc := 45) hx hb dX9_many_45 (lv_at hl 0 rfl) ?_
            refine lv_aload_n (pc := 47) hx hb dX9_many_47 rfl (lv_at hl 1 rfl) ?_
            refine lv_iload_n (pc := 48) hx hb dX9_many_48 rfl (lv_at hl 4 rfl) ?_
            obtain ⟨v7, hv49, hf⟩ := bd_e hf
            refine ro_Vl (pc := 49) (As := [.int y4]) (rest := [.long ((1 : Int64) <<< (Int32.toInt64 (((2 : Int32) * mo_people) * y4) &&& 63))]) E (c_X9_noneOf l D cI cJ cZ cS N mo_A mo_looks_A mo_period_A mo_shut_A mo_phase_A mo_quarters_A mo_tall_A mo_pairs_A mo_pad_A mo_cuts_A mo_at_A mo_first_A mo_kept_A mo_isKept_A mo_people mo_shots mo_looks mo_bride mo_hands mo_period mo_shut mo_phase mo_flash mo_quarters mo_tired mo_rows mo_columns mo_rise mo_tall mo_pairs mo_pad mo_padMany mo_cuts mo_at mo_first mo_kept mo_isKept mo_keptAt mo_isWriting y4 v7 hv49) F_X9_noneOf rfl rfl tw_956 tw_958 tp_38 hP ⟨by decide, by decide⟩ rfl hl.1 (Nat.le_of_ble_eq_true rfl) ⟨by decide, by decide⟩ rfl dX9_many_49 ?_
            refine lv_lsub (pc := 52) hx hb dX9_many_52 ?_
            refine lv_iload_n (pc := 53) hx hb dX9_many_53 rfl (lv_at hl 3 rfl) ?_
            refine lv_i2l (pc := 54) (v := (Int32.toInt64 p2)) hx hb dX9_many_54 rfl ?_
            refine lv_lmul (pc := 55) hx hb dX9_many_55 ?_
            refine lv_iload_n (pc := 56) hx hb dX9_many_56 rfl (lv_at hl 2 rfl) ?_
            refine lv_i2l (pc := 57) (v := (Int32.toInt64 p1)) hx hb dX9_many_57 rfl ?_
            refine lv_lload (pc := 58) hx hb dX9_many_58 (lv_at hl 0 rfl) ?_
            refine lv_lmul (pc := 60) hx hb dX9_many_60 ?_
            refine W.lcmp (pc := 61) hx hb dX9_many_61 ?_
            refine r_if_lt (pc := 62) (tgt := 67) hx hb dX9_many_62 (by decide) hf (fun hf => ?_) (fun hf => ?_)
            · refine lv_iinc (pc := 67) (v := (y4 + (1 : Int32))) (lv' := [(3, .int (y4 + (1 : Int32))), (4, .long ((1 : Int64) <<< (Int32.toInt64 (((2 : Int32) * mo_people) * y4) &&& 63))), (0, .ref mo_A), (1, .int p1), (2, .int p2)]) hx hb dX9_many_67 hl (k := 4) rfl (by rfl) (by decide) rfl (fun ls hl => ?_)
              refine lv_goto (pc := 70) (tgt := 28) hx hb dX9_many_70 (by decide) ?_
              exact ih _ _ hf (lv_sub hl [2, 3, 4, 0] rfl)
            · refine lv_iload_n (pc := 65) hx hb dX9_many_65 rfl (lv_at hl 4 rfl) ?_
              exact hQ _ _ _ dX9_many_66 hf
      exact L28 N _ _ hf (lv_sub hl [1, 2, 3, 0] rfl)
    · exact K2  _ hf (lv_sub hl [] rfl)
theorem F_X9_shoot : CalF yX9_shoot cX9_shoot 10 (some .int) 3 := ⟨tw_968, tw_10, by decide +kernel⟩
set_option maxRecDepth 100000 in
set_option maxHeartbeats 4000000 in
theorem c_X9_shoot (l : Launch) (D : va_G) (cI cJ cZ cS : ClassId) (N : Nat) (mo_A mo_looks_A mo_period_A mo_shut_A mo_phase_A mo_quarters_A mo_tall_A mo_pairs_A mo_pad_A mo_cuts_A mo_at_A mo_first_A mo_kept_A mo_isKept_A : Nat) (mo_people : Int32) (mo_shots : Int32) (mo_looks : Nat → Int32) (mo_bride : Int32) (mo_hands : Int32) (mo_period : Nat → Int32) (mo_shut : Nat → Int32) (mo_phase : Nat → Int32) (mo_flash : Int32) (mo_quarters : Nat → Int32) (mo_tired : Int32) (mo_rows : Int32) (mo_columns : Int32) (mo_rise : Int32) (mo_tall : Nat → Int32) (mo_pairs : Nat → Int32) (mo_pad : Nat → Int32) (mo_padMany : Int32) (mo_cuts : Nat → Int32) (mo_at : Nat → Int32) (mo_first : Nat → Int32) (mo_kept : Nat → Int32) (mo_isKept : Nat → Int32) (mo_keptAt : Int32) (mo_isWriting : Int32) (p1 : Int32) (p2 : Int32) (p3 : Int32) (r : Int32) (hf : f_X9_shoot N mo_people mo_quarters mo_tired p1 p2 p3 = some r) : RoC l D cI cJ cZ cS yX9_shoot cX9_shoot 10 (some .int) 1 25 (w_X9 cI cJ cZ cS mo_A mo_looks_A mo_period_A mo_shut_A mo_phase_A mo_quarters_A mo_tall_A mo_pairs_A mo_pad_A mo_cuts_A mo_at_A mo_first_A mo_kept_A mo_isKept_A mo_people mo_shots mo_looks mo_bride mo_hands mo_period mo_shut mo_phase mo_flash mo_quarters mo_tired mo_rows mo_columns mo_rise mo_tall mo_pairs mo_pad mo_padMany mo_cuts mo_at mo_first mo_kept mo_isKept mo_keptAt mo_isWriting) [.ref mo_A, .int p1, .int p2, .int p3] (some (.int r)) := by
  refine ro_in_i (own := RX9) (by decide +kernel) rfl (Nat.le_of_ble_eq_true rfl) ?_
  intro p e s m args below meth c ls Q E hQ hP hl
  obtain ⟨hx, hb, hml, hown, hts, hK, hN, hAO⟩ := id E
  have hl : lv_has ls 10 [(0, .ref mo_A), (1, .int p1), (2, .int p2), (3, .int p3)] := hl
  unfold f_X9_shoot at hf
  refine lv_iload_n (pc := 0) hx hb dX9_shoot_0 rfl (lv_at hl 1 rfl) ?_
  refine lv_i2l (pc := 1) (v := (Int32.toInt64 p1)) hx hb dX9_shoot_1 rfl ?_
  refine lv_lconst (pc := 2) (v := (0 : Int64)) hx hb dX9_shoot_2 (by decide) ?_
  refine lv_ldc2 (pc := 3) hx hb hown (hts _ tw_969) dX9_shoot_3 ?_
  obtain ⟨v1, hv6, hf⟩ := bd_e hf
  refine ro_Si (pc := 6) (As := [.long (Int32.toInt64 p1), .long (0 : Int64), .long (9999 : Int64)]) (rest := []) E (c_X9_in l D cI cJ cZ cS (Int32.toInt64 p1) (0 : Int64) (9999 : Int64) v1 hv6) F_X9_in tw_793 tw_794  va_P_nil ⟨by decide, by decide⟩ rfl hl.1 (Nat.le_of_ble_eq_true rfl) ⟨by decide, by decide⟩ rfl dX9_shoot_6 ?_
  obtain ⟨k2, hk2, hf⟩ := lc0_e hf
  have K2 : ∀  (ls : Array Slot), k2 = some r → lv_has ls 10 [] → W p l e (roR 1 25) s m args below meth c s.heap [] 0 0 Q (F0 m 34 ls []) := by
    intro  ls hf hl
    rw [hk2] at hf
    refine lv_bipush (pc := 34) (v := (-2 : Int32)) hx hb dX9_shoot_34 (by decide) ?_
    exact hQ _ _ _ dX9_shoot_36 hf
  refine r_if_eq (pc := 9) (tgt := 34) hx hb dX9_shoot_9 (by decide) hf (fun hf => ?_) (fun hf => ?_)
  · exact K2  _ hf (lv_sub hl [] rfl)
  · refine lv_iload_n (pc := 12) hx hb dX9_shoot_12 rfl (lv_at hl 2 rfl) ?_
    refine lv_i2l (pc := 13) (v := (Int32.toInt64 p2)) hx hb dX9_shoot_13 rfl ?_
    refine lv_lconst (pc := 14) (v := (1 : Int64)) hx hb dX9_shoot_14 (by decide) ?_
    refine lv_ldc2 (pc := 15) hx hb hown (hts _ tw_970) dX9_shoot_15 ?_
    obtain ⟨v3, hv18, hf⟩ := bd_e hf
    refine ro_Si (pc := 18) (As := [.long (Int32.toInt64 p2), .long (1 : Int64), .long (30 : Int64)]) (rest := []) E (c_X9_in l D cI cJ cZ cS (Int32.toInt64 p2) (1 : Int64) (30 : Int64) v3 hv18) F_X9_in tw_793 tw_794  va_P_nil ⟨by decide, by decide⟩ rfl hl.1 (Nat.le_of_ble_eq_true rfl) ⟨by decide, by decide⟩ rfl dX9_shoot_18 ?_
    refine r_if_eq (pc := 21) (tgt := 34) hx hb dX9_shoot_21 (by decide) hf (fun hf => ?_) (fun hf => ?_)
    · exact K2  _ hf (lv_sub hl [] rfl)
    · refine lv_iload_n (pc := 24) hx hb dX9_shoot_24 rfl (lv_at hl 3 rfl) ?_
      refine lv_i2l (pc := 25) (v := (Int32.toInt64 p3)) hx hb dX9_shoot_25 rfl ?_
      refine lv_lconst (pc := 26) (v := (0 : Int64)) hx hb dX9_shoot_26 (by decide) ?_
      refine lv_lconst (pc := 27) (v := (1 : Int64)) hx hb dX9_shoot_27 (by decide) ?_
      obtain ⟨v4, hv28, hf⟩ := bd_e hf
      refine ro_Si (pc := 28) (As := [.long (Int32.toInt64 p3), .long (0 : Int64), .long (1 : Int64)]) (rest := []) E (c_X9_in l D cI cJ cZ cS (Int32.toInt64 p3) (0 : Int64) (1 : Int64) v4 hv28) F_X9_in tw_793 tw_794  va_P_nil ⟨by decide, by decide⟩ rfl hl.1 (Nat.le_of_ble_eq_true rfl) ⟨by decide, by decide⟩ rfl dX9_shoot_28 ?_
      refine r_if_ne (pc := 31) (tgt := 37) hx hb dX9_shoot_31 (by decide) hf (fun hf => ?_) (fun hf => ?_)
      · refine lv_iload_n (pc := 37) hx hb dX9_shoot_37 rfl (lv_at hl 1 rfl) ?_
        refine lv_istore (pc := 38) (lv' := [(4, .int p1), (0, .ref mo_A), (1, .int p1), (2, .int p2), (3, .int p3)]) hx hb dX9_shoot_38 hl (by decide) rfl (fun ls hl => ?_)
        refine lv_bipush (pc := 40) (v := (-6 : Int32)) hx hb dX9_shoot_40 (by decide) ?_
        refine lv_istore (pc := 42) (lv' := [(5, .int (-6 : Int32)), (4, .int p1), (0, .ref mo_A), (1, .int p1), (2, .int p2), (3, .int p3)]) hx hb dX9_shoot_42 hl (by decide) rfl (fun ls hl => ?_)
        refine lv_iconst (pc := 44) (v := (0 : Int32)) hx hb dX9_shoot_44 (by decide) ?_
        refine lv_istore (pc := 45) (lv' := [(6, .int (0 : Int32)), (5, .int (-6 : Int32)), (4, .int p1), (0, .ref mo_A), (1, .int p1), (2, .int p2), (3, .int p3)]) hx hb dX9_shoot_45 hl (by decide) rfl (fun ls hl => ?_)
        refine lv_iconst (pc := 47) (v := (0 : Int32)) hx hb dX9_shoot_47 (by decide) ?_
        refine lv_istore (pc := 48) (lv' := [(7, .int (0 : Int32)), (6, .int (0 : Int32)), (5, .int (-6 : Int32)), (4, .int p1), (0, .ref mo_A), (1, .int p1), (2, .int p2), (3, .int p3)]) hx hb dX9_shoot_48 hl (by decide) rfl (fun ls hl => ?_)
        obtain ⟨k10, hk10, hf⟩ := lc2_e hf
        have K10 : ∀ (z11 : Int32) (z12 : Int32) (ls : Array Slot), k10 z11 z12 = some r → lv_has ls 10 [(3, .int p3), (5, .int z11), (6, .int z12)] → W p l e (roR 1 25) s m args below meth c s.heap [] 0 0 Q (F0 m 162 ls []) := by
          intro z11 z12 ls hf hl
          rw [hk10] at hf
          refine lv_iload_n (pc := 162) hx hb dX9_shoot_162 rfl (lv_at hl 0 rfl) ?_
          refine r_if_ne (pc := 163) (tgt := 171) hx hb dX9_shoot_163 (by decide) hf (fun hf => ?_) (fun hf => ?_)
          · refine lv_iload (pc := 171) hx hb dX9_shoot_171 (lv_at hl 2 rfl) ?_
            exact hQ _ _ _ dX9_shoot_173 hf
          · refine lv_iload (pc := 166) hx hb dX9_shoot_166 (lv_at hl 1 rfl) ?_
            refine lv_goto (pc := 168) (tgt := 173) hx hb dX9_shoot_168 (by decide) ?_
            exact hQ _ _ _ dX9_shoot_173 hf
        have L50 : ∀ (n : Nat), ∀ (y5 : Int32) (y6 : Int32) (y7 : Int32) (y8 : Int32) (ls : Array Slot), f_X9_shoot_L50 mo_people mo_quarters mo_tired p2 N k10 n y5 y6 y7 y8 = some r → lv_has ls 10 [(0, .ref mo_A), (2, .int p2), (3, .int p3), (4, .int y5), (5, .int y6), (6, .int y7), (7, .int y8)] → W p l e (roR 1 25) s m args below meth c s.heap [] 0 0 Q (F0 m 50 ls []) := by
          intro n
          induction n with
          | zero =>
            intro y5 y6 y7 y8 ls hf
            rw [f_X9_shoot_L50] at hf
            cases hf
          | succ n ih =>
            intro y5 y6 y7 y8 ls hf hl
            rw [f_X9_shoot_L50] at hf
            refine lv_iload (pc := 50) hx hb dX9_shoot_50 (lv_at hl 6 rfl) ?_
            refine lv_iload_n (pc := 52) hx hb dX9_shoot_52 rfl (lv_at hl 1 rfl) ?_
            refine r_ic_ge (pc := 53) (tgt := 162) hx hb dX9_shoot_53 (by decide) hf (fun hf => ?_) (fun hf => ?_)
            · exact K10 _ _ _ hf (lv_sub hl [2, 4, 5] rfl)
            · refine lv_iconst (pc := 56) (v := (1 : Int32)) hx hb dX9_shoot_56 (by decide) ?_
              refine lv_istore (pc := 57) (lv' := [(8, .int (1 : Int32)), (0, .ref mo_A), (2, .int p2), (3, .int p3), (4, .int y5), (5, .int y6), (6, .int y7), (7, .int y8)]) hx hb dX9_shoot_57 hl (by decide) rfl (fun ls hl => ?_)
              refine lv_iconst (pc := 59) (v := (0 : Int32)) hx hb dX9_shoot_59 (by decide) ?_
              refine lv_istore (pc := 60) (lv' := [(9, .int (0 : Int32)), (8, .int (1 : Int32)), (0, .ref mo_A), (2, .int p2), (3, .int p3), (4, .int y5), (5, .int y6), (6, .int y7), (7, .int y8)]) hx hb dX9_shoot_60 hl (by decide) rfl (fun ls hl => ?_)
              obtain ⟨k17, hk17, hf⟩ := lc2_e hf
              have K17 : ∀ (z18 : Int32) (z19 : Int32) (ls : Array Slot), k17 z18 z19 = some r → lv_has ls 10 [(0, .ref mo_A), (2, .int p2), (3, .int p3), (4, .int z18), (5, .int y6), (6, .int y7), (7, .int y8), (8, .int z19)] → W p l e (roR 1 25) s m args below meth c s.heap [] 0 0 Q (F0 m 122 ls []) := by
                intro z18 z19 ls hf hl
                rw [hk17] at hf
                refine lv_iload (pc := 122) hx hb dX9_shoot_122 (lv_at hl 7 rfl) ?_
                obtain ⟨k27, hk27, hf⟩ := lc1_e hf
                have K27 : ∀ (x28 : Int32) (ls : Array Slot), k27 x28 = some r → lv_has ls 10 [(0, .ref mo_A), (2, .int p2), (3, .int p3), (4, .int z18), (6, .int y7), (7, .int y8), (8, .int z19)] → W p l e (roR 1 25) s m args below meth c s.heap [] 0 0 Q (F0 m 139 ls [.int x28]) := by
                  intro x28 ls hf hl
                  rw [hk27] at hf
                  refine lv_istore (pc := 139) (lv' := [(5, .int x28), (0, .ref mo_A), (2, .int p2), (3, .int p3), (4, .int z18), (6, .int y7), (7, .int y8), (8, .int z19)]) hx hb dX9_shoot_139 hl (by decide) rfl (fun ls hl => ?_)
                  refine lv_iload (pc := 141) hx hb dX9_shoot_141 (lv_at hl 5 rfl) ?_
                  refine lv_iload (pc := 143) hx hb dX9_shoot_143 (lv_at hl 7 rfl) ?_
                  obtain ⟨k29, hk29, hf⟩ := lc1_e hf
                  have K29 : ∀ (x30 : Int32) (ls : Array Slot), k29 x30 = some r → lv_has ls 10 [(0, .ref mo_A), (2, .int p2), (3, .int p3), (4, .int z18), (5, .int x28), (7, .int y8)] → W p l e (roR 1 25) s m args below meth c s.heap [] 0 0 Q (F0 m 153 ls [.int x30, .int y7]) := by
                    intro x30 ls hf hl
                    rw [hk29] at hf
                    refine lv_iadd (pc := 153) hx hb dX9_shoot_153 ?_
                    refine lv_istore (pc := 154) (lv' := [(6, .int (y7 + x30)), (0, .ref mo_A), (2, .int p2), (3, .int p3), (4, .int z18), (5, .int x28), (7, .int y8)]) hx hb dX9_shoot_154 hl (by decide) rfl (fun ls hl => ?_)
                    refine lv_iinc (pc := 156) (v := (y8 + (1 : Int32))) (lv' := [(7, .int (y8 + (1 : Int32))), (6, .int (y7 + x30)), (0, .ref mo_A), (2, .int p2), (3, .int p3), (4, .int z18), (5, .int x28)]) hx hb dX9_shoot_156 hl (k := 6) rfl (by rfl) (by decide) rfl (fun ls hl => ?_)
                    refine lv_goto (pc := 159) (tgt := 50) hx hb dX9_shoot_159 (by decide) ?_
                    exact ih _ _ _ _ _ hf (lv_sub hl [2, 3, 4, 5, 6, 1, 0] rfl)
                  refine r_if_eq (pc := 145) (tgt := 152) hx hb dX9_shoot_145 (by decide) hf (fun hf => ?_) (fun hf => ?_)
                  · refine lv_iconst (pc := 152) (v := (0 : Int32)) hx hb dX9_shoot_152 (by decide) ?_
                    exact K29 _ _ hf (lv_sub hl [1, 2, 3, 4, 0, 6] rfl)
                  · refine lv_iconst (pc := 148) (v := (1 : Int32)) hx hb dX9_shoot_148 (by decide) ?_
                    refine lv_goto (pc := 149) (tgt := 153) hx hb dX9_shoot_149 (by decide) ?_
                    exact K29 _ _ hf (lv_sub hl [1, 2, 3, 4, 0, 6] rfl)
                obtain ⟨k26, hk26, hf⟩ := lc0_e hf
                have K26 : ∀  (ls : Array Slot), k26 = some r → lv_has ls 10 [(0, .ref mo_A), (2, .int p2), (3, .int p3), (4, .int z18), (5, .int y6), (6, .int y7), (7, .int y8), (8, .int z19)] → W p l e (roR 1 25) s m args below meth c s.heap [] 0 0 Q (F0 m 137 ls []) := by
                  intro  ls hf hl
                  rw [hk26] at hf
                  refine lv_iload (pc := 137) hx hb dX9_shoot_137 (lv_at hl 4 rfl) ?_
                  exact K27 _ _ hf (lv_sub hl [0, 1, 2, 3, 5, 6, 7] rfl)
                refine r_if_eq (pc := 124) (tgt := 137) hx hb dX9_shoot_124 (by decide) hf (fun hf => ?_) (fun hf => ?_)
                · exact K26  _ hf hl
                · refine lv_iload (pc := 127) hx hb dX9_shoot_127 (lv_at hl 4 rfl) ?_
                  refine r_if_ge (pc := 129) (tgt := 137) hx hb dX9_shoot_129 (by decide) hf (fun hf => ?_) (fun hf => ?_)
                  · exact K26  _ hf hl
                  · refine lv_iload (pc := 132) hx hb dX9_shoot_132 (lv_at hl 6 rfl) ?_
                    refine lv_goto (pc := 134) (tgt := 139) hx hb dX9_shoot_134 (by decide) ?_
                    exact K27 _ _ hf (lv_sub hl [0, 1, 2, 3, 5, 6, 7] rfl)
              have L62 : ∀ (n : Nat), ∀ (y13 : Int32) (y14 : Int32) (y15 : Int32) (ls : Array Slot), f_X9_shoot_L62 mo_people mo_quarters mo_tired y8 k17 n y13 y14 y15 = some r → lv_has ls 10 [(0, .ref mo_A), (2, .int p2), (3, .int p3), (4, .int y13), (5, .int y6), (6, .int y7), (7, .int y8), (8, .int y14), (9, .int y15)] → W p l e (roR 1 25) s m args below meth c s.heap [] 0 0 Q (F0 m 62 ls []) := by
                intro n
                induction n with
                | zero =>
                  intro y13 y14 y15 ls hf
                  rw [f_X9_shoot_L62] at hf
                  cases hf
                | succ n ih =>
                  intro y13 y14 y15 ls hf hl
                  rw [f_X9_shoot_L62] at hf
                  refine lv_iload (pc := 62) hx hb dX9_shoot_62 (lv_at hl 8 rfl) ?_
                  refine lv_aload_n (pc := 64) hx hb dX9_shoot_64 rfl (lv_at hl 0 rfl) ?_
                  refine va_get (pc := 65) (D := D) (ci := 9) (v := .int mo_people) (C := RX9) (T := TX9) (N := 25) hx hb hts inG9 hown hK hP 0 rfl rfl 0 (by decide) (hts _ tw_711) (fun _ h9 => h9) rfl dX9_shoot_65 ?_
                  refine r_ic_ge (pc := 68) (tgt := 122) hx hb dX9_shoot_68 (by decide) hf (fun hf => ?_) (fun hf => ?_)
                  · exact K17 _ _ _ hf (lv_sub hl [0, 1, 2, 3, 4, 5, 6, 7] rfl)
                  · refine lv_ldc2 (pc := 71) hx hb hown (hts _ tw_971) dX9_shoot_71 ?_
                    refine lv_iload (pc := 74) hx hb dX9_shoot_74 (lv_at hl 3 rfl) ?_
                    refine lv_i2l (pc := 76) (v := (Int32.toInt64 y13)) hx hb dX9_shoot_76 rfl ?_
                    refine lv_lmul (pc := 77) hx hb dX9_shoot_77 ?_
                    refine lv_ldc2 (pc := 78) hx hb hown (hts _ tw_972) dX9_shoot_78 ?_
                    refine lv_ladd (pc := 81) hx hb dX9_shoot_81 ?_
                    refine lv_ldc2 (pc := 82) hx hb hown (hts _ tw_973) dX9_shoot_82 ?_
                    refine r_lrem (pc := 85) hx hb hf dX9_shoot_85 (fun v20 hf => ?_)
                    refine lv_l2i (pc := 86) (v := (Int64.toInt32 v20)) hx hb dX9_shoot_86 rfl ?_
                    refine lv_istore (pc := 87) (lv' := [(4, .int (Int64.toInt32 v20)), (0, .ref mo_A), (2, .int p2), (3, .int p3), (5, .int y6), (6, .int y7), (7, .int y8), (8, .int y14), (9, .int y15)]) hx hb dX9_shoot_87 hl (by decide) rfl (fun ls hl => ?_)
                    refine lv_iload (pc := 89) hx hb dX9_shoot_89 (lv_at hl 7 rfl) ?_
                    obtain ⟨k22, hk22, hf⟩ := lc1_e hf
                    have K22 : ∀ (x25 : Int32) (ls : Array Slot), k22 x25 = some r → lv_has ls 10 [(0, .ref mo_A), (2, .int p2), (3, .int p3), (4, .int (Int64.toInt32 v20)), (5, .int y6), (6, .int y7), (7, .int y8), (9, .int y15)] → W p l e (roR 1 25) s m args below meth c s.heap [] 0 0 Q (F0 m 114 ls [.int x25]) := by
                      intro x25 ls hf hl
                      rw [hk22] at hf
                      refine lv_istore (pc := 114) (lv' := [(8, .int x25), (0, .ref mo_A), (2, .int p2), (3, .int p3), (4, .int (Int64.toInt32 v20)), (5, .int y6), (6, .int y7), (7, .int y8), (9, .int y15)]) hx hb dX9_shoot_114 hl (by decide) rfl (fun ls hl => ?_)
                      refine lv_iinc (pc := 116) (v := (y15 + (1 : Int32))) (lv' := [(9, .int (y15 + (1 : Int32))), (8, .int x25), (0, .ref mo_A), (2, .int p2), (3, .int p3), (4, .int (Int64.toInt32 v20)), (5, .int y6), (6, .int y7), (7, .int y8)]) hx hb dX9_shoot_116 hl (k := 8) rfl (by rfl) (by decide) rfl (fun ls hl => ?_)
                      refine lv_goto (pc := 119) (tgt := 62) hx hb dX9_shoot_119 (by decide) ?_
                      exact ih _ _ _ _ hf (lv_sub hl [2, 3, 4, 5, 6, 7, 8, 1, 0] rfl)
                    obtain ⟨k21, hk21, hf⟩ := lc0_e hf
                    have K21 : ∀  (ls : Array Slot), k21 = some r → lv_has ls 10 [(0, .ref mo_A), (2, .int p2), (3, .int p3), (4, .int (Int64.toInt32 v20)), (5, .int y6), (6, .int y7), (7, .int y8), (9, .int y15)] → W p l e (roR 1 25) s m args below meth c s.heap [] 0 0 Q (F0 m 113 ls []) := by
                      intro  ls hf hl
                      rw [hk21] at hf
                      refine lv_iconst (pc := 113) (v := (0 : Int32)) hx hb dX9_shoot_113 (by decide) ?_
                      exact K22 _ _ hf hl
                    refine r_if_eq (pc := 91) (tgt := 113) hx hb dX9_shoot_91 (by decide) hf (fun hf => ?_) (fun hf => ?_)
                    · exact K21  _ hf (lv_sub hl [1, 2, 3, 0, 4, 5, 6, 8] rfl)
                    · refine lv_iload (pc := 94) hx hb dX9_shoot_94 (lv_at hl 0 rfl) ?_
                      refine lv_iconst (pc := 96) (v := (4 : Int32)) hx hb dX9_shoot_96 (by decide) ?_
                      refine r_irem (pc := 97) hx hb hf dX9_shoot_97 (fun v23 hf => ?_)
                      refine lv_aload_n (pc := 98) hx hb dX9_shoot_98 rfl (lv_at hl 1 rfl) ?_
                      refine lv_iload (pc := 99) hx hb dX9_shoot_99 (lv_at hl 8 rfl) ?_
                      refine lv_iload (pc := 101) hx hb dX9_shoot_101 (lv_at hl 6 rfl) ?_
                      obtain ⟨v24, hv103, hf⟩ := bd_e hf
                      refine ro_Vi (pc := 103) (As := [.int y15, .int y8]) (rest := [.int v23]) E (c_X9_quartersOf l D cI cJ cZ cS mo_A mo_looks_A mo_period_A mo_shut_A mo_phase_A mo_quarters_A mo_tall_A mo_pairs_A mo_pad_A mo_cuts_A mo_at_A mo_first_A mo_kept_A mo_isKept_A mo_people mo_shots mo_looks mo_bride mo_hands mo_period mo_shut mo_phase mo_flash mo_quarters mo_tired mo_rows mo_columns mo_rise mo_tall mo_pairs mo_pad mo_padMany mo_cuts mo_at mo_first mo_kept mo_isKept mo_keptAt mo_isWriting y15 y8 v24 hv103) F_X9_quartersOf rfl rfl tw_944 tw_946 tp_37 hP ⟨by decide, by decide⟩ rfl hl.1 (Nat.le_of_ble_eq_true rfl) ⟨by decide, by decide⟩ rfl dX9_shoot_103 ?_
                      refine r_ic_lt (pc := 106) (tgt := 113) hx hb dX9_shoot_106 (by decide) hf (fun hf => ?_) (fun hf => ?_)
                      · exact K21  _ hf (lv_sub hl [1, 2, 3, 0, 4, 5, 6, 8] rfl)
                      · refine lv_iconst (pc := 109) (v := (1 : Int32)) hx hb dX9_shoot_109 (by decide) ?_
                        refine lv_goto (pc := 110) (tgt := 114) hx hb dX9_shoot_110 (by decide) ?_
                        exact K22 _ _ hf (lv_sub hl [1, 2, 3, 0, 4, 5, 6, 8] rfl)
              exact L62 N _ _ _ _ hf (lv_sub hl [2, 3, 4, 5, 6, 7, 8, 1, 0] rfl)
        exact L50 N _ _ _ _ _ hf (lv_sub hl [4, 6, 7, 3, 2, 1, 0] rfl)
      · exact K2  _ hf (lv_sub hl [] rfl)
theorem F_X9_stair : CalF yX9_stair cX9_stair 3 (some .int) 2 := ⟨tw_977, tw_10, by decide +kernel⟩
set_option maxRecDepth 100000 in
set_option maxHeartbeats 4000000 in
theorem c_X9_stair (l : Launch) (D : va_G) (cI cJ cZ cS : ClassId) (mo_A mo_looks_A mo_period_A mo_shut_A mo_phase_A mo_quarters_A mo_tall_A mo_pairs_A mo_pad_A mo_cuts_A mo_at_A mo_first_A mo_kept_A mo_isKept_A : Nat) (mo_people : Int32) (mo_shots : Int32) (mo_looks : Nat → Int32) (mo_bride : Int32) (mo_hands : Int32) (mo_period : Nat → Int32) (mo_shut : Nat → Int32) (mo_phase : Nat → Int32) (mo_flash : Int32) (mo_quarters : Nat → Int32) (mo_tired : Int32) (mo_rows : Int32) (mo_columns : Int32) (mo_rise : Int32) (mo_tall : Nat → Int32) (mo_pairs : Nat → Int32) (mo_pad : Nat → Int32) (mo_padMany : Int32) (mo_cuts : Nat → Int32) (mo_at : Nat → Int32) (mo_first : Nat → Int32) (mo_kept : Nat → Int32) (mo_isKept : Nat → Int32) (mo_keptAt : Int32) (mo_isWriting : Int32) (p1 : Int32) (p2 : Int32) (sz : Nat) (r : Int32) (r_mo_rows : Int32) (r_mo_columns : Int32) (hf : f_X9_stair mo_rows mo_columns p1 p2 = some (r, r_mo_rows, r_mo_columns)) : RwC l D cI cJ cZ cS yX9_stair cX9_stair 3 (some .int) 1 25 (w_X9 cI cJ cZ cS mo_A mo_looks_A mo_period_A mo_shut_A mo_phase_A mo_quarters_A mo_tall_A mo_pairs_A mo_pad_A mo_cuts_A mo_at_A mo_first_A mo_kept_A mo_isKept_A mo_people mo_shots mo_looks mo_bride mo_hands mo_period mo_shut mo_phase mo_flash mo_quarters mo_tired mo_rows mo_columns mo_rise mo_tall mo_pairs mo_pad mo_padMany mo_cuts mo_at mo_first mo_kept mo_isKept mo_keptAt mo_isWriting) sz [.ref mo_A, .int p1, .int p2] (some (.int r)) (w_X9 cI cJ cZ cS mo_A mo_looks_A mo_period_A mo_shut_A mo_phase_A mo_quarters_A mo_tall_A mo_pairs_A mo_pad_A mo_cuts_A mo_at_A mo_first_A mo_kept_A mo_isKept_A mo_people mo_shots mo_looks mo_bride mo_hands mo_period mo_shut mo_phase mo_flash mo_quarters mo_tired r_mo_rows r_mo_columns mo_rise mo_tall mo_pairs mo_pad mo_padMany mo_cuts mo_at mo_first mo_kept mo_isKept mo_keptAt mo_isWriting) := by
  refine rw_in_i (own := RX9) (by decide +kernel) rfl (Nat.le_of_ble_eq_true rfl) ?_
  intro p e s m args below meth c ls Q A E hA hQ hP hD hS hl
  obtain ⟨hx, hb, hml, hown, hts, hK, hN, hAO⟩ := id E
  have hl : lv_has ls 3 [(0, .ref mo_A), (1, .int p1), (2, .int p2)] := hl
  unfold f_X9_stair at hf
  obtain ⟨H, hH⟩ : ∃ H, H = s.heap := ⟨_, rfl⟩
  obtain ⟨locs, hlocs⟩ : ∃ L : List Loc, L = [] := ⟨_, rfl⟩
  rw [show W p l e (roR 1 25) s m args below meth c s.heap [] 0 0 Q (F0 m 0 ls []) = W p l e (roR 1 25) s m args below meth c H locs 0 0 Q (F0 m 0 ls []) by rw [hH, hlocs]]
  replace hS : va_S A s.heap H locs := by rw [hH, hlocs]; exact hS
  replace hP : va_P D vwCl (w_X9 cI cJ cZ cS mo_A mo_looks_A mo_period_A mo_shut_A mo_phase_A mo_quarters_A mo_tall_A mo_pairs_A mo_pad_A mo_cuts_A mo_at_A mo_first_A mo_kept_A mo_isKept_A mo_people mo_shots mo_looks mo_bride mo_hands mo_period mo_shut mo_phase mo_flash mo_quarters mo_tired mo_rows mo_columns mo_rise mo_tall mo_pairs mo_pad mo_padMany mo_cuts mo_at mo_first mo_kept mo_isKept mo_keptAt mo_isWriting) H := by rw [hH]; exact hP
  clear hH hlocs
  refine lv_iload_n (pc := 0) hx hb dX9_stair_0 rfl (lv_at hl 1 rfl) ?_
  refine lv_i2l (pc := 1) (v := (Int32.toInt64 p1)) hx hb dX9_stair_1 rfl ?_
  refine lv_lconst (pc := 2) (v := (1 : Int64)) hx hb dX9_stair_2 (by decide) ?_
  refine lv_ldc2 (pc := 3) hx hb hown (hts _ tw_955) dX9_stair_3 ?_
  obtain ⟨v1, hv6, hf⟩ := bd_e hf
  refine ro_Si (pc := 6) (As := [.long (Int32.toInt64 p1), .long (1 : Int64), .long (3 : Int64)]) (rest := []) E (c_X9_in l D cI cJ cZ cS (Int32.toInt64 p1) (1 : Int64) (3 : Int64) v1 hv6) F_X9_in tw_793 tw_794  va_P_nil ⟨by decide, by decide⟩ rfl hl.1 (Nat.le_of_ble_eq_true rfl) ⟨by decide, by decide⟩ rfl dX9_stair_6 ?_
  obtain ⟨k2, hk2, hf⟩ := lc0_e hf
  have K2 : ∀  (H : Heap) (locs : List Loc) (ls : Array Slot), k2 = some (r, r_mo_rows, r_mo_columns) → va_P D vwCl (w_X9 cI cJ cZ cS mo_A mo_looks_A mo_period_A mo_shut_A mo_phase_A mo_quarters_A mo_tall_A mo_pairs_A mo_pad_A mo_cuts_A mo_at_A mo_first_A mo_kept_A mo_isKept_A mo_people mo_shots mo_looks mo_bride mo_hands mo_period mo_shut mo_phase mo_flash mo_quarters mo_tired mo_rows mo_columns mo_rise mo_tall mo_pairs mo_pad mo_padMany mo_cuts mo_at mo_first mo_kept mo_isKept mo_keptAt mo_isWriting) H → va_D A (w_X9 cI cJ cZ cS mo_A mo_looks_A mo_period_A mo_shut_A mo_phase_A mo_quarters_A mo_tall_A mo_pairs_A mo_pad_A mo_cuts_A mo_at_A mo_first_A mo_kept_A mo_isKept_A mo_people mo_shots mo_looks mo_bride mo_hands mo_period mo_shut mo_phase mo_flash mo_quarters mo_tired mo_rows mo_columns mo_rise mo_tall mo_pairs mo_pad mo_padMany mo_cuts mo_at mo_first mo_kept mo_isKept mo_keptAt mo_isWriting) → va_S A s.heap H locs → lv_has ls 3 [] → W p l e (roR 1 25) s m args below meth c H locs 0 0 Q (F0 m 32 ls []) := by
    intro  H locs ls hf hP hD hS hl
    rw [hk2] at hf
    refine lv_bipush (pc := 32) (v := (-2 : Int32)) hx hb dX9_stair_32 (by decide) ?_
    cases hf
    exact hQ _ _ _ _ _ dX9_stair_34 rfl hP hD hS
  refine r_if_eq (pc := 9) (tgt := 32) hx hb dX9_stair_9 (by decide) hf (fun hf => ?_) (fun hf => ?_)
  · exact K2  _ _ _ hf hP hD hS (lv_sub hl [] rfl)
  · refine lv_iload_n (pc := 12) hx hb dX9_stair_12 rfl (lv_at hl 2 rfl) ?_
    refine lv_i2l (pc := 13) (v := (Int32.toInt64 p2)) hx hb dX9_stair_13 rfl ?_
    refine lv_lconst (pc := 14) (v := (1 : Int64)) hx hb dX9_stair_14 (by decide) ?_
    refine lv_ldc2 (pc := 15) hx hb hown (hts _ tw_934) dX9_stair_15 ?_
    obtain ⟨v3, hv18, hf⟩ := bd_e hf
    refine ro_Si (pc := 18) (As := [.long (Int32.toInt64 p2), .long (1 : Int64), .long (4 : Int64)]) (rest := []) E (c_X9_in l D cI cJ cZ cS (Int32.toInt64 p2) (1 : Int64) (4 : Int64) v3 hv18) F_X9_in tw_793 tw_794  va_P_nil ⟨by decide, by decide⟩ rfl hl.1 (Nat.le_of_ble_eq_true rfl) ⟨by decide, by decide⟩ rfl dX9_stair_18 ?_
    refine r_if_eq (pc := 21) (tgt := 32) hx hb dX9_stair_21 (by decide) hf (fun hf => ?_) (fun hf => ?_)
    · exact K2  _ _ _ hf hP hD hS (lv_sub hl [] rfl)
    · refine lv_iload_n (pc := 24) hx hb dX9_stair_24 rfl (lv_at hl 1 rfl) ?_
      refine lv_iload_n (pc := 25) hx hb dX9_stair_25 rfl (lv_at hl 2 rfl) ?_
      refine lv_imul (pc := 26) hx hb dX9_stair_26 ?_
      refine lv_bipush (pc := 27) (v := (8 : Int32)) hx hb dX9_stair_27 (by decide) ?_
      refine r_ic_le (pc := 29) (tgt := 35) hx hb dX9_stair_29 (by decide) hf (fun hf => ?_) (fun hf => ?_)
      · refine lv_aload_n (pc := 35) hx hb dX9_stair_35 rfl (lv_at hl 0 rfl) ?_
        refine lv_iload_n (pc := 36) hx hb dX9_stair_36 rfl (lv_at hl 1 rfl) ?_
        refine va_put (pc := 37) (D := D) (ci := 9) (v := .int p1) (ty := .int) (C := RX9) (T := TX9) (N := 25) hx hb hts inG9 tyX9 tyX9_ok nmX9 hown hK hP hD hS 0 rfl rfl 11 (by decide) (hts _ tw_722) (fun _ h9 => h9) rfl (by decide +kernel) rfl rfl (Nat.le_of_ble_eq_true rfl) dX9_stair_37 (fun H locs hP hD hS => ?_)
        have hP : va_P D vwCl (w_X9 cI cJ cZ cS mo_A mo_looks_A mo_period_A mo_shut_A mo_phase_A mo_quarters_A mo_tall_A mo_pairs_A mo_pad_A mo_cuts_A mo_at_A mo_first_A mo_kept_A mo_isKept_A mo_people mo_shots mo_looks mo_bride mo_hands mo_period mo_shut mo_phase mo_flash mo_quarters mo_tired p1 mo_columns mo_rise mo_tall mo_pairs mo_pad mo_padMany mo_cuts mo_at mo_first mo_kept mo_isKept mo_keptAt mo_isWriting) H := hP
        have hD : va_D A (w_X9 cI cJ cZ cS mo_A mo_looks_A mo_period_A mo_shut_A mo_phase_A mo_quarters_A mo_tall_A mo_pairs_A mo_pad_A mo_cuts_A mo_at_A mo_first_A mo_kept_A mo_isKept_A mo_people mo_shots mo_looks mo_bride mo_hands mo_period mo_shut mo_phase mo_flash mo_quarters mo_tired p1 mo_columns mo_rise mo_tall mo_pairs mo_pad mo_padMany mo_cuts mo_at mo_first mo_kept mo_isKept mo_keptAt mo_isWriting) := hD
        refine lv_aload_n (pc := 40) hx hb dX9_stair_40 rfl (lv_at hl 0 rfl) ?_
        refine lv_iload_n (pc := 41) hx hb dX9_stair_41 rfl (lv_at hl 2 rfl) ?_
        refine va_put (pc := 42) (D := D) (ci := 9) (v := .int p2) (ty := .int) (C := RX9) (T := TX9) (N := 25) hx hb hts inG9 tyX9 tyX9_ok nmX9 hown hK hP hD hS 0 rfl rfl 12 (by decide) (hts _ tw_723) (fun _ h9 => h9) rfl (by decide +kernel) rfl rfl (Nat.le_of_ble_eq_true rfl) dX9_stair_42 (fun H locs hP hD hS => ?_)
        have hP : va_P D vwCl (w_X9 cI cJ cZ cS mo_A mo_looks_A mo_period_A mo_shut_A mo_phase_A mo_quarters_A mo_tall_A mo_pairs_A mo_pad_A mo_cuts_A mo_at_A mo_first_A mo_kept_A mo_isKept_A mo_people mo_shots mo_looks mo_bride mo_hands mo_period mo_shut mo_phase mo_flash mo_quarters mo_tired p1 p2 mo_rise mo_tall mo_pairs mo_pad mo_padMany mo_cuts mo_at mo_first mo_kept mo_isKept mo_keptAt mo_isWriting) H := hP
        have hD : va_D A (w_X9 cI cJ cZ cS mo_A mo_looks_A mo_period_A mo_shut_A mo_phase_A mo_quarters_A mo_tall_A mo_pairs_A mo_pad_A mo_cuts_A mo_at_A mo_first_A mo_kept_A mo_isKept_A mo_people mo_shots mo_looks mo_bride mo_hands mo_period mo_shut mo_phase mo_flash mo_quarters mo_tired p1 p2 mo_rise mo_tall mo_pairs mo_pad mo_padMany mo_cuts mo_at mo_first mo_kept mo_isKept mo_keptAt mo_isWriting) := hD
        refine lv_iload_n (pc := 45) hx hb dX9_stair_45 rfl (lv_at hl 1 rfl) ?_
        refine lv_iload_n (pc := 46) hx hb dX9_stair_46 rfl (lv_at hl 2 rfl) ?_
        refine lv_imul (pc := 47) hx hb dX9_stair_47 ?_
        cases hf
        exact hQ _ _ _ _ _ dX9_stair_48 rfl hP hD hS
      · exact K2  _ _ _ hf hP hD hS (lv_sub hl [] rfl)
theorem F_X9_tall : CalF yX9_tall cX9_tall 4 (some .int) 2 := ⟨tw_981, tw_10, by decide +kernel⟩
set_option maxRecDepth 100000 in
set_option maxHeartbeats 4000000 in
theorem c_X9_tall (l : Launch) (D : va_G) (cI cJ cZ cS : ClassId) (mo_A mo_looks_A mo_period_A mo_shut_A mo_phase_A mo_quarters_A mo_tall_A mo_pairs_A mo_pad_A mo_cuts_A mo_at_A mo_first_A mo_kept_A mo_isKept_A : Nat) (mo_people : Int32) (mo_shots : Int32) (mo_looks : Nat → Int32) (mo_bride : Int32) (mo_hands : Int32) (mo_period : Nat → Int32) (mo_shut : Nat → Int32) (mo_phase : Nat → Int32) (mo_flash : Int32) (mo_quarters : Nat → Int32) (mo_tired : Int32) (mo_rows : Int32) (mo_columns : Int32) (mo_rise : Int32) (mo_tall : Nat → Int32) (mo_pairs : Nat → Int32) (mo_pad : Nat → Int32) (mo_padMany : Int32) (mo_cuts : Nat → Int32) (mo_at : Nat → Int32) (mo_first : Nat → Int32) (mo_kept : Nat → Int32) (mo_isKept : Nat → Int32) (mo_keptAt : Int32) (mo_isWriting : Int32) (p1 : Int32) (p2 : Int32) (sz : Nat) (r : Int32) (r_mo_rise : Int32) (r_mo_tall : Nat → Int32) (hf : f_X9_tall mo_people mo_rise mo_tall p1 p2 = some (r, r_mo_rise, r_mo_tall)) : RwC l D cI cJ cZ cS yX9_tall cX9_tall 4 (some .int) 2 46 (w_X9 cI cJ cZ cS mo_A mo_looks_A mo_period_A mo_shut_A mo_phase_A mo_quarters_A mo_tall_A mo_pairs_A mo_pad_A mo_cuts_A mo_at_A mo_first_A mo_kept_A mo_isKept_A mo_people mo_shots mo_looks mo_bride mo_hands mo_period mo_shut mo_phase mo_flash mo_quarters mo_tired mo_rows mo_columns mo_rise mo_tall mo_pairs mo_pad mo_padMany mo_cuts mo_at mo_first mo_kept mo_isKept mo_keptAt mo_isWriting) sz [.ref mo_A, .int p1, .int p2] (some (.int r)) (w_X9 cI cJ cZ cS mo_A mo_looks_A mo_period_A mo_shut_A mo_phase_A mo_quarters_A mo_tall_A mo_pairs_A mo_pad_A mo_cuts_A mo_at_A mo_first_A mo_kept_A mo_isKept_A mo_people mo_shots mo_looks mo_bride mo_hands mo_period mo_shut mo_phase mo_flash mo_quarters mo_tired mo_rows mo_columns r_mo_rise r_mo_tall mo_pairs mo_pad mo_padMany mo_cuts mo_at mo_first mo_kept mo_isKept mo_keptAt mo_isWriting) := by
  refine rw_in_i (own := RX9) (by decide +kernel) rfl (Nat.le_of_ble_eq_true rfl) ?_
  intro p e s m args below meth c ls Q A E hA hQ hP hD hS hl
  obtain ⟨hx, hb, hml, hown, hts, hK, hN, hAO⟩ := id E
  have hl : lv_has ls 4 [(0, .ref mo_A), (1, .int p1), (2, .int p2)] := hl
  unfold f_X9_tall at hf
  obtain ⟨H, hH⟩ : ∃ H, H = s.heap := ⟨_, rfl⟩
  obtain ⟨locs, hlocs⟩ : ∃ L : List Loc, L = [] := ⟨_, rfl⟩
  rw [show W p l e (roR 2 46) s m args below meth c s.heap [] 0 0 Q (F0 m 0 ls []) = W p l e (roR 2 46) s m args below meth c H locs 0 0 Q (F0 m 0 ls []) by rw [hH, hlocs]]
  replace hS : va_S A s.heap H locs := by rw [hH, hlocs]; exact hS
  replace hP : va_P D vwCl (w_X9 cI cJ cZ cS mo_A mo_looks_A mo_period_A mo_shut_A mo_phase_A mo_quarters_A mo_tall_A mo_pairs_A mo_pad_A mo_cuts_A mo_at_A mo_first_A mo_kept_A mo_isKept_A mo_people mo_shots mo_looks mo_bride mo_hands mo_period mo_shut mo_phase mo_flash mo_quarters mo_tired mo_rows mo_columns mo_rise mo_tall mo_pairs mo_pad mo_padMany mo_cuts mo_at mo_first mo_kept mo_isKept mo_keptAt mo_isWriting) H := by rw [hH]; exact hP
  clear hH hlocs
  refine lv_iload_n (pc := 0) hx hb dX9_tall_0 rfl (lv_at hl 1 rfl) ?_
  refine lv_iconst (pc := 1) (v := (-1 : Int32)) hx hb dX9_tall_1 (by decide) ?_
  obtain ⟨k1, hk1, hf⟩ := lc0_e hf
  have K1 : ∀  (H : Heap) (locs : List Loc) (ls : Array Slot), k1 = some (r, r_mo_rise, r_mo_tall) → va_P D vwCl (w_X9 cI cJ cZ cS mo_A mo_looks_A mo_period_A mo_shut_A mo_phase_A mo_quarters_A mo_tall_A mo_pairs_A mo_pad_A mo_cuts_A mo_at_A mo_first_A mo_kept_A mo_isKept_A mo_people mo_shots mo_looks mo_bride mo_hands mo_period mo_shut mo_phase mo_flash mo_quarters mo_tired mo_rows mo_columns mo_rise mo_tall mo_pairs mo_pad mo_padMany mo_cuts mo_at mo_first mo_kept mo_isKept mo_keptAt mo_isWriting) H → va_D A (w_X9 cI cJ cZ cS mo_A mo_looks_A mo_period_A mo_shut_A mo_phase_A mo_quarters_A mo_tall_A mo_pairs_A mo_pad_A mo_cuts_A mo_at_A mo_first_A mo_kept_A mo_isKept_A mo_people mo_shots mo_looks mo_bride mo_hands mo_period mo_shut mo_phase mo_flash mo_quarters mo_tired mo_rows mo_columns mo_rise mo_tall mo_pairs mo_pad mo_padMany mo_cuts mo_at mo_first mo_kept mo_isKept mo_keptAt mo_isWriting) → va_S A s.heap H locs → lv_has ls 4 [(0, .ref mo_A), (1, .int p1), (2, .int p2)] → W p l e (roR 2 46) s m args below meth c H locs 0 0 Q (F0 m 15 ls []) := by
    intro  H locs ls hf hP hD hS hl
    rw [hk1] at hf
    refine lv_iload_n (pc := 15) hx hb dX9_tall_15 rfl (lv_at hl 2 rfl) ?_
    refine lv_i2l (pc := 16) (v := (Int32.toInt64 p2)) hx hb dX9_tall_16 rfl ?_
    refine lv_lconst (pc := 17) (v := (0 : Int64)) hx hb dX9_tall_17 (by decide) ?_
    refine lv_iload_n (pc := 18) hx hb dX9_tall_18 rfl (lv_at hl 1 rfl) ?_
    refine lv_iconst (pc := 19) (v := (-1 : Int32)) hx hb dX9_tall_19 (by decide) ?_
    obtain ⟨k3, hk3, hf⟩ := lc1_e hf
    have K3 : ∀ (x4 : Int64) (H : Heap) (locs : List Loc) (ls : Array Slot), k3 x4 = some (r, r_mo_rise, r_mo_tall) → va_P D vwCl (w_X9 cI cJ cZ cS mo_A mo_looks_A mo_period_A mo_shut_A mo_phase_A mo_quarters_A mo_tall_A mo_pairs_A mo_pad_A mo_cuts_A mo_at_A mo_first_A mo_kept_A mo_isKept_A mo_people mo_shots mo_looks mo_bride mo_hands mo_period mo_shut mo_phase mo_flash mo_quarters mo_tired mo_rows mo_columns mo_rise mo_tall mo_pairs mo_pad mo_padMany mo_cuts mo_at mo_first mo_kept mo_isKept mo_keptAt mo_isWriting) H → va_D A (w_X9 cI cJ cZ cS mo_A mo_looks_A mo_period_A mo_shut_A mo_phase_A mo_quarters_A mo_tall_A mo_pairs_A mo_pad_A mo_cuts_A mo_at_A mo_first_A mo_kept_A mo_isKept_A mo_people mo_shots mo_looks mo_bride mo_hands mo_period mo_shut mo_phase mo_flash mo_quarters mo_tired mo_rows mo_columns mo_rise mo_tall mo_pairs mo_pad mo_padMany mo_cuts mo_at mo_first mo_kept mo_isKept mo_keptAt mo_isWriting) → va_S A s.heap H locs → lv_has ls 4 [(0, .ref mo_A), (1, .int p1), (2, .int p2)] → W p l e (roR 2 46) s m args below meth c H locs 0 0 Q (F0 m 32 ls [.long x4, .long (0 : Int64), .long (Int32.toInt64 p2)]) := by
      intro x4 H locs ls hf hP hD hS hl
      rw [hk3] at hf
      obtain ⟨v5, hv32, hf⟩ := bd_e hf
      refine ro_Si (pc := 32) (As := [.long (Int32.toInt64 p2), .long (0 : Int64), .long x4]) (rest := []) E (c_X9_in l D cI cJ cZ cS (Int32.toInt64 p2) (0 : Int64) x4 v5 hv32) F_X9_in tw_793 tw_794  va_P_nil ⟨by decide, by decide⟩ rfl hl.1 (Nat.le_of_ble_eq_true rfl) ⟨by decide, by decide⟩ rfl dX9_tall_32 ?_
      refine r_if_ne (pc := 35) (tgt := 41) hx hb dX9_tall_35 (by decide) hf (fun hf => ?_) (fun hf => ?_)
      · refine lv_iload_n (pc := 41) hx hb dX9_tall_41 rfl (lv_at hl 1 rfl) ?_
        refine lv_iconst (pc := 42) (v := (-1 : Int32)) hx hb dX9_tall_42 (by decide) ?_
        obtain ⟨k6, hk6, hf⟩ := lc1_e hf
        have K6 : ∀ (x8 : Int32) (H : Heap) (locs : List Loc) (ls : Array Slot), k6 x8 = some (r, r_mo_rise, r_mo_tall) → va_P D vwCl (w_X9 cI cJ cZ cS mo_A mo_looks_A mo_period_A mo_shut_A mo_phase_A mo_quarters_A mo_tall_A mo_pairs_A mo_pad_A mo_cuts_A mo_at_A mo_first_A mo_kept_A mo_isKept_A mo_people mo_shots mo_looks mo_bride mo_hands mo_period mo_shut mo_phase mo_flash mo_quarters mo_tired mo_rows mo_columns mo_rise mo_tall mo_pairs mo_pad mo_padMany mo_cuts mo_at mo_first mo_kept mo_isKept mo_keptAt mo_isWriting) H → va_D A (w_X9 cI cJ cZ cS mo_A mo_looks_A mo_period_A mo_shut_A mo_phase_A mo_quarters_A mo_tall_A mo_pairs_A mo_pad_A mo_cuts_A mo_at_A mo_first_A mo_kept_A mo_isKept_A mo_people mo_shots mo_looks mo_bride mo_hands mo_period mo_shut mo_phase mo_flash mo_quarters mo_tired mo_rows mo_columns mo_rise mo_tall mo_pairs mo_pad mo_padMany mo_cuts mo_at mo_first mo_kept mo_isKept mo_keptAt mo_isWriting) → va_S A s.heap H locs → lv_has ls 4 [(0, .ref mo_A), (1, .int p1), (2, .int p2)] → W p l e (roR 2 46) s m args below meth c H locs 0 0 Q (F0 m 59 ls [.int x8]) := by
          intro x8 H locs ls hf hP hD hS hl
          rw [hk6] at hf
          refine lv_istore_n (pc := 59) (lv' := [(3, .int x8), (0, .ref mo_A), (1, .int p1), (2, .int p2)]) hx hb dX9_tall_59 rfl hl (by decide) rfl (fun ls hl => ?_)
          refine lv_iload_n (pc := 60) hx hb dX9_tall_60 rfl (lv_at hl 2 rfl) ?_
          refine lv_iconst (pc := 61) (v := (-1 : Int32)) hx hb dX9_tall_61 (by decide) ?_
          refine r_ic_ne (pc := 62) (tgt := 73) hx hb dX9_tall_62 (by decide) hf (fun hf => ?_) (fun hf => ?_)
          · refine lv_aload_n (pc := 73) hx hb dX9_tall_73 rfl (lv_at hl 1 rfl) ?_
            refine va_get (pc := 74) (D := D) (ci := 9) (v := .ref mo_tall_A) (C := RX9) (T := TX9) (N := 25) hx hb hts inG9 hown hK hP 0 rfl rfl 14 (by decide) (hts _ tw_725) (fun _ h9 => h9) rfl dX9_tall_74 ?_
            refine lv_iload_n (pc := 77) hx hb dX9_tall_77 rfl (lv_at hl 2 rfl) ?_
            refine lv_iload_n (pc := 78) hx hb dX9_tall_78 rfl (lv_at hl 3 rfl) ?_
            refine r_iast (pc := 79) hx hb hK hP hD hS 6 0 rfl rfl hf dX9_tall_79 (fun mo_tall_9 H locs hf hP hD hS => ?_)
            have hP : va_P D vwCl (w_X9 cI cJ cZ cS mo_A mo_looks_A mo_period_A mo_shut_A mo_phase_A mo_quarters_A mo_tall_A mo_pairs_A mo_pad_A mo_cuts_A mo_at_A mo_first_A mo_kept_A mo_isKept_A mo_people mo_shots mo_looks mo_bride mo_hands mo_period mo_shut mo_phase mo_flash mo_quarters mo_tired mo_rows mo_columns mo_rise mo_tall_9 mo_pairs mo_pad mo_padMany mo_cuts mo_at mo_first mo_kept mo_isKept mo_keptAt mo_isWriting) H := hP
            have hD : va_D A (w_X9 cI cJ cZ cS mo_A mo_looks_A mo_period_A mo_shut_A mo_phase_A mo_quarters_A mo_tall_A mo_pairs_A mo_pad_A mo_cuts_A mo_at_A mo_first_A mo_kept_A mo_isKept_A mo_people mo_shots mo_looks mo_bride mo_hands mo_period mo_shut mo_phase mo_flash mo_quarters mo_tired mo_rows mo_columns mo_rise mo_tall_9 mo_pairs mo_pad mo_padMany mo_cuts mo_at mo_first mo_kept mo_isKept mo_keptAt mo_isWriting) := hD
            refine lv_iload_n (pc := 80) hx hb dX9_tall_80 rfl (lv_at hl 0 rfl) ?_
            cases hf
            exact hQ _ _ _ _ _ dX9_tall_81 rfl hP hD hS
          · refine lv_aload_n (pc := 65) hx hb dX9_tall_65 rfl (lv_at hl 1 rfl) ?_
            refine lv_iload_n (pc := 66) hx hb dX9_tall_66 rfl (lv_at hl 3 rfl) ?_
            refine va_put (pc := 67) (D := D) (ci := 9) (v := .int p2) (ty := .int) (C := RX9) (T := TX9) (N := 25) hx hb hts inG9 tyX9 tyX9_ok nmX9 hown hK hP hD hS 0 rfl rfl 13 (by decide) (hts _ tw_724) (fun _ h9 => h9) rfl (by decide +kernel) rfl rfl (Nat.le_of_ble_eq_true rfl) dX9_tall_67 (fun H locs hP hD hS => ?_)
            have hP : va_P D vwCl (w_X9 cI cJ cZ cS mo_A mo_looks_A mo_period_A mo_shut_A mo_phase_A mo_quarters_A mo_tall_A mo_pairs_A mo_pad_A mo_cuts_A mo_at_A mo_first_A mo_kept_A mo_isKept_A mo_people mo_shots mo_looks mo_bride mo_hands mo_period mo_shut mo_phase mo_flash mo_quarters mo_tired mo_rows mo_columns p2 mo_tall mo_pairs mo_pad mo_padMany mo_cuts mo_at mo_first mo_kept mo_isKept mo_keptAt mo_isWriting) H := hP
            have hD : va_D A (w_X9 cI cJ cZ cS mo_A mo_looks_A mo_period_A mo_shut_A mo_phase_A mo_quarters_A mo_tall_A mo_pairs_A mo_pad_A mo_cuts_A mo_at_A mo_first_A mo_kept_A mo_isKept_A mo_people mo_shots mo_looks mo_bride mo_hands mo_period mo_shut mo_phase mo_flash mo_quarters mo_tired mo_rows mo_columns p2 mo_tall mo_pairs mo_pad mo_padMany mo_cuts mo_at mo_first mo_kept mo_isKept mo_keptAt mo_isWriting) := hD
            refine lv_goto (pc := 70) (tgt := 80) hx hb dX9_tall_70 (by decide) ?_
            refine lv_iload_n (pc := 80) hx hb dX9_tall_80 rfl (lv_at hl 0 rfl) ?_
            cases hf
            exact hQ _ _ _ _ _ dX9_tall_81 rfl hP hD hS
        refine r_ic_ne (pc := 43) (tgt := 53) hx hb dX9_tall_43 (by decide) hf (fun hf => ?_) (fun hf => ?_)
        · refine lv_aload_n (pc := 53) hx hb dX9_tall_53 rfl (lv_at hl 0 rfl) ?_
          refine va_get (pc := 54) (D := D) (ci := 9) (v := .ref mo_tall_A) (C := RX9) (T := TX9) (N := 25) hx hb hts inG9 hown hK hP 0 rfl rfl 14 (by decide) (hts _ tw_725) (fun _ h9 => h9) rfl dX9_tall_54 ?_
          refine lv_iload_n (pc := 57) hx hb dX9_tall_57 rfl (lv_at hl 1 rfl) ?_
          refine r_iald (pc := 58) hx hb hK hP 6 0 rfl rfl hf dX9_tall_58 (fun v7 hf => ?_)
          exact K6 _ _ _ _ hf hP hD hS hl
        · refine lv_aload_n (pc := 46) hx hb dX9_tall_46 rfl (lv_at hl 0 rfl) ?_
          refine va_get (pc := 47) (D := D) (ci := 9) (v := .int mo_rise) (C := RX9) (T := TX9) (N := 25) hx hb hts inG9 hown hK hP 0 rfl rfl 13 (by decide) (hts _ tw_724) (fun _ h9 => h9) rfl dX9_tall_47 ?_
          refine lv_goto (pc := 50) (tgt := 59) hx hb dX9_tall_50 (by decide) ?_
          exact K6 _ _ _ _ hf hP hD hS hl
      · refine lv_bipush (pc := 38) (v := (-2 : Int32)) hx hb dX9_tall_38 (by decide) ?_
        cases hf
        exact hQ _ _ _ _ _ dX9_tall_40 rfl hP hD hS
    refine r_ic_ne (pc := 20) (tgt := 29) hx hb dX9_tall_20 (by decide) hf (fun hf => ?_) (fun hf => ?_)
    · refine lv_ldc2 (pc := 29) hx hb hown (hts _ tw_983) dX9_tall_29 ?_
      exact K3 _ _ _ _ hf hP hD hS hl
    · refine lv_ldc2 (pc := 23) hx hb hown (hts _ tw_982) dX9_tall_23 ?_
      refine lv_goto (pc := 26) (tgt := 32) hx hb dX9_tall_26 (by decide) ?_
      exact K3 _ _ _ _ hf hP hD hS hl
  refine r_ic_eq (pc := 2) (tgt := 15) hx hb dX9_tall_2 (by decide) hf (fun hf => ?_) (fun hf => ?_)
  · exact K1  _ _ _ hf hP hD hS hl
  · refine lv_aload_n (pc := 5) hx hb dX9_tall_5 rfl (lv_at hl 0 rfl) ?_
    refine lv_iload_n (pc := 6) hx hb dX9_tall_6 rfl (lv_at hl 1 rfl) ?_
    obtain ⟨v2, hv7, hf⟩ := bd_e hf
    refine ro_Vi (pc := 7) (As := [.int p1]) (rest := []) E (c_X9_isPerson l D cI cJ cZ cS mo_A mo_looks_A mo_period_A mo_shut_A mo_phase_A mo_quarters_A mo_tall_A mo_pairs_A mo_pad_A mo_cuts_A mo_at_A mo_first_A mo_kept_A mo_isKept_A mo_people mo_shots mo_looks mo_bride mo_hands mo_period mo_shut mo_phase mo_flash mo_quarters mo_tired mo_rows mo_columns mo_rise mo_tall mo_pairs mo_pad mo_padMany mo_cuts mo_at mo_first mo_kept mo_isKept mo_keptAt mo_isWriting p1 v2 hv7) F_X9_isPerson rfl rfl tw_800 tw_802 tp_22 hP ⟨by decide, by decide⟩ rfl hl.1 (Nat.le_of_ble_eq_true rfl) ⟨by decide, by decide⟩ rfl dX9_tall_7 ?_
    refine r_if_ne (pc := 10) (tgt := 15) hx hb dX9_tall_10 (by decide) hf (fun hf => ?_) (fun hf => ?_)
    · exact K1  _ _ _ hf hP hD hS hl
    · refine lv_iconst (pc := 13) (v := (-1 : Int32)) hx hb dX9_tall_13 (by decide) ?_
      cases hf
      exact hQ _ _ _ _ _ dX9_tall_14 rfl hP hD hS
theorem F_X9_pair : CalF yX9_pair cX9_pair 5 (some .int) 3 := ⟨tw_987, tw_10, by decide +kernel⟩
set_option maxRecDepth 100000 in
set_option maxHeartbeats 4000000 in
theorem c_X9_pair (l : Launch) (D : va_G) (cI cJ cZ cS : ClassId) (mo_A mo_looks_A mo_period_A mo_shut_A mo_phase_A mo_quarters_A mo_tall_A mo_pairs_A mo_pad_A mo_cuts_A mo_at_A mo_first_A mo_kept_A mo_isKept_A : Nat) (mo_people : Int32) (mo_shots : Int32) (mo_looks : Nat → Int32) (mo_bride : Int32) (mo_hands : Int32) (mo_period : Nat → Int32) (mo_shut : Nat → Int32) (mo_phase : Nat → Int32) (mo_flash : Int32) (mo_quarters : Nat → Int32) (mo_tired : Int32) (mo_rows : Int32) (mo_columns : Int32) (mo_rise : Int32) (mo_tall : Nat → Int32) (mo_pairs : Nat → Int32) (mo_pad : Nat → Int32) (mo_padMany : Int32) (mo_cuts : Nat → Int32) (mo_at : Nat → Int32) (mo_first : Nat → Int32) (mo_kept : Nat → Int32) (mo_isKept : Nat → Int32) (mo_keptAt : Int32) (mo_isWriting : Int32) (p1 : Int32) (p2 : Int32) (p3 : Int32) (sz : Nat) (r : Int32) (r_mo_pairs : Nat → Int32) (hf : f_X9_pair mo_people mo_pairs p1 p2 p3 = some (r, r_mo_pairs)) : RwC l D cI cJ cZ cS yX9_pair cX9_pair 5 (some .int) 2 46 (w_X9 cI cJ cZ cS mo_A mo_looks_A mo_period_A mo_shut_A mo_phase_A mo_quarters_A mo_tall_A mo_pairs_A mo_pad_A mo_cuts_A mo_at_A mo_first_A mo_kept_A mo_isKept_A mo_people mo_shots mo_looks mo_bride mo_hands mo_period mo_shut mo_phase mo_flash mo_quarters mo_tired mo_rows mo_columns mo_rise mo_tall mo_pairs mo_pad mo_padMany mo_cuts mo_at mo_first mo_kept mo_isKept mo_keptAt mo_isWriting) sz [.ref mo_A, .int p1, .int p2, .int p3] (some (.int r)) (w_X9 cI cJ cZ cS mo_A mo_looks_A mo_period_A mo_shut_A mo_phase_A mo_quarters_A mo_tall_A mo_pairs_A mo_pad_A mo_cuts_A mo_at_A mo_first_A mo_kept_A mo_isKept_A mo_people mo_shots mo_looks mo_bride mo_hands mo_period mo_shut mo_phase mo_flash mo_quarters mo_tired mo_rows mo_columns mo_rise mo_tall r_mo_pairs mo_pad mo_padMany mo_cuts mo_at mo_first mo_kept mo_isKept mo_keptAt mo_isWriting) := by
  refine rw_in_i (own := RX9) (by decide +kernel) rfl (Nat.le_of_ble_eq_true rfl) ?_
  intro p e s m args below meth c ls Q A E hA hQ hP hD hS hl
  obtain ⟨hx, hb, hml, hown, hts, hK, hN, hAO⟩ := id E
  have hl : lv_has ls 5 [(0, .ref mo_A), (1, .int p1), (2, .int p2), (3, .int p3)] := hl
  unfold f_X9_pair at hf
  obtain ⟨H, hH⟩ : ∃ H, H = s.heap := ⟨_, rfl⟩
  obtain ⟨locs, hlocs⟩ : ∃ L : List Loc, L = [] := ⟨_, rfl⟩
  rw [show W p l e (roR 2 46) s m args below meth c s.heap [] 0 0 Q (F0 m 0 ls []) = W p l e (roR 2 46) s m args below meth c H locs 0 0 Q (F0 m 0 ls []) by rw [hH, hlocs]]
  replace hS : va_S A s.heap H locs := by rw [hH, hlocs]; exact hS
  replace hP : va_P D vwCl (w_X9 cI cJ cZ cS mo_A mo_looks_A mo_period_A mo_shut_A mo_phase_A mo_quarters_A mo_tall_A mo_pairs_A mo_pad_A mo_cuts_A mo_at_A mo_first_A mo_kept_A mo_isKept_A mo_people mo_shots mo_looks mo_bride mo_hands mo_period mo_shut mo_phase mo_flash mo_quarters mo_tired mo_rows mo_columns mo_rise mo_tall mo_pairs mo_pad mo_padMany mo_cuts mo_at mo_first mo_kept mo_isKept mo_keptAt mo_isWriting) H := by rw [hH]; exact hP
  clear hH hlocs
  refine lv_aload_n (pc := 0) hx hb dX9_pair_0 rfl (lv_at hl 0 rfl) ?_
  refine lv_iload_n (pc := 1) hx hb dX9_pair_1 rfl (lv_at hl 1 rfl) ?_
  obtain ⟨v1, hv2, hf⟩ := bd_e hf
  refine ro_Vi (pc := 2) (As := [.int p1]) (rest := []) E (c_X9_isPerson l D cI cJ cZ cS mo_A mo_looks_A mo_period_A mo_shut_A mo_phase_A mo_quarters_A mo_tall_A mo_pairs_A mo_pad_A mo_cuts_A mo_at_A mo_first_A mo_kept_A mo_isKept_A mo_people mo_shots mo_looks mo_bride mo_hands mo_period mo_shut mo_phase mo_flash mo_quarters mo_tired mo_rows mo_columns mo_rise mo_tall mo_pairs mo_pad mo_padMany mo_cuts mo_at mo_first mo_kept mo_isKept mo_keptAt mo_isWriting p1 v1 hv2) F_X9_isPerson rfl rfl tw_800 tw_802 tp_22 hP ⟨by decide, by decide⟩ rfl hl.1 (Nat.le_of_ble_eq_true rfl) ⟨by decide, by decide⟩ rfl dX9_pair_2 ?_
  refine r_if_eq (pc := 5) (tgt := 21) hx hb dX9_pair_5 (by decide) hf (fun hf => ?_) (fun hf => ?_)
  · refine lv_iconst (pc := 21) (v := (-1 : Int32)) hx hb dX9_pair_21 (by decide) ?_
    cases hf
    exact hQ _ _ _ _ _ dX9_pair_22 rfl hP hD hS
  · refine lv_aload_n (pc := 8) hx hb dX9_pair_8 rfl (lv_at hl 0 rfl) ?_
    refine lv_iload_n (pc := 9) hx hb dX9_pair_9 rfl (lv_at hl 2 rfl) ?_
    obtain ⟨v2, hv10, hf⟩ := bd_e hf
    refine ro_Vi (pc := 10) (As := [.int p2]) (rest := []) E (c_X9_isPerson l D cI cJ cZ cS mo_A mo_looks_A mo_period_A mo_shut_A mo_phase_A mo_quarters_A mo_tall_A mo_pairs_A mo_pad_A mo_cuts_A mo_at_A mo_first_A mo_kept_A mo_isKept_A mo_people mo_shots mo_looks mo_bride mo_hands mo_period mo_shut mo_phase mo_flash mo_quarters mo_tired mo_rows mo_columns mo_rise mo_tall mo_pairs mo_pad mo_padMany mo_cuts mo_at mo_first mo_kept mo_isKept mo_keptAt mo_isWriting p2 v2 hv10) F_X9_isPerson rfl rfl tw_800 tw_802 tp_22 hP ⟨by decide, by decide⟩ rfl hl.1 (Nat.le_of_ble_eq_true rfl) ⟨by decide, by decide⟩ rfl dX9_pair_10 ?_
    refine r_if_eq (pc := 13) (tgt := 21) hx hb dX9_pair_13 (by decide) hf (fun hf => ?_) (fun hf => ?_)
    · refine lv_iconst (pc := 21) (v := (-1 : Int32)) hx hb dX9_pair_21 (by decide) ?_
      cases hf
      exact hQ _ _ _ _ _ dX9_pair_22 rfl hP hD hS
    · refine lv_iload_n (pc := 16) hx hb dX9_pair_16 rfl (lv_at hl 1 rfl) ?_
      refine lv_iload_n (pc := 17) hx hb dX9_pair_17 rfl (lv_at hl 2 rfl) ?_
      refine r_ic_ne (pc := 18) (tgt := 23) hx hb dX9_pair_18 (by decide) hf (fun hf => ?_) (fun hf => ?_)
      · refine lv_iload_n (pc := 23) hx hb dX9_pair_23 rfl (lv_at hl 3 rfl) ?_
        refine lv_i2l (pc := 24) (v := (Int32.toInt64 p3)) hx hb dX9_pair_24 rfl ?_
        refine lv_lconst (pc := 25) (v := (0 : Int64)) hx hb dX9_pair_25 (by decide) ?_
        refine lv_ldc2 (pc := 26) hx hb hown (hts _ tw_928) dX9_pair_26 ?_
        obtain ⟨v3, hv29, hf⟩ := bd_e hf
        refine ro_Si (pc := 29) (As := [.long (Int32.toInt64 p3), .long (0 : Int64), .long (2 : Int64)]) (rest := []) E (c_X9_in l D cI cJ cZ cS (Int32.toInt64 p3) (0 : Int64) (2 : Int64) v3 hv29) F_X9_in tw_793 tw_794  va_P_nil ⟨by decide, by decide⟩ rfl hl.1 (Nat.le_of_ble_eq_true rfl) ⟨by decide, by decide⟩ rfl dX9_pair_29 ?_
        refine r_if_ne (pc := 32) (tgt := 38) hx hb dX9_pair_32 (by decide) hf (fun hf => ?_) (fun hf => ?_)
        · refine lv_aload_n (pc := 38) hx hb dX9_pair_38 rfl (lv_at hl 0 rfl) ?_
          refine va_get (pc := 39) (D := D) (ci := 9) (v := .ref mo_pairs_A) (C := RX9) (T := TX9) (N := 25) hx hb hts inG9 hown hK hP 0 rfl rfl 15 (by decide) (hts _ tw_726) (fun _ h9 => h9) rfl dX9_pair_39 ?_
          refine lv_bipush (pc := 42) (v := (8 : Int32)) hx hb dX9_pair_42 (by decide) ?_
          refine lv_iload_n (pc := 44) hx hb dX9_pair_44 rfl (lv_at hl 1 rfl) ?_
          refine lv_imul (pc := 45) hx hb dX9_pair_45 ?_
          refine lv_iload_n (pc := 46) hx hb dX9_pair_46 rfl (lv_at hl 2 rfl) ?_
          refine lv_iadd (pc := 47) hx hb dX9_pair_47 ?_
          refine r_iald (pc := 48) hx hb hK hP 7 0 rfl rfl hf dX9_pair_48 (fun v4 hf => ?_)
          refine lv_istore (pc := 49) (lv' := [(4, .int v4), (0, .ref mo_A), (1, .int p1), (2, .int p2), (3, .int p3)]) hx hb dX9_pair_49 hl (by decide) rfl (fun ls hl => ?_)
          refine lv_aload_n (pc := 51) hx hb dX9_pair_51 rfl (lv_at hl 1 rfl) ?_
          refine va_get (pc := 52) (D := D) (ci := 9) (v := .ref mo_pairs_A) (C := RX9) (T := TX9) (N := 25) hx hb hts inG9 hown hK hP 0 rfl rfl 15 (by decide) (hts _ tw_726) (fun _ h9 => h9) rfl dX9_pair_52 ?_
          refine lv_bipush (pc := 55) (v := (8 : Int32)) hx hb dX9_pair_55 (by decide) ?_
          refine lv_iload_n (pc := 57) hx hb dX9_pair_57 rfl (lv_at hl 2 rfl) ?_
          refine lv_imul (pc := 58) hx hb dX9_pair_58 ?_
          refine lv_iload_n (pc := 59) hx hb dX9_pair_59 rfl (lv_at hl 3 rfl) ?_
          refine lv_iadd (pc := 60) hx hb dX9_pair_60 ?_
          refine lv_iload_n (pc := 61) hx hb dX9_pair_61 rfl (lv_at hl 4 rfl) ?_
          refine r_iast (pc := 62) hx hb hK hP hD hS 7 0 rfl rfl hf dX9_pair_62 (fun mo_pairs_5 H locs hf hP hD hS => ?_)
          have hP : va_P D vwCl (w_X9 cI cJ cZ cS mo_A mo_looks_A mo_period_A mo_shut_A mo_phase_A mo_quarters_A mo_tall_A mo_pairs_A mo_pad_A mo_cuts_A mo_at_A mo_first_A mo_kept_A mo_isKept_A mo_people mo_shots mo_looks mo_bride mo_hands mo_period mo_shut mo_phase mo_flash mo_quarters mo_tired mo_rows mo_columns mo_rise mo_tall mo_pairs_5 mo_pad mo_padMany mo_cuts mo_at mo_first mo_kept mo_isKept mo_keptAt mo_isWriting) H := hP
          have hD : va_D A (w_X9 cI cJ cZ cS mo_A mo_looks_A mo_period_A mo_shut_A mo_phase_A mo_quarters_A mo_tall_A mo_pairs_A mo_pad_A mo_cuts_A mo_at_A mo_first_A mo_kept_A mo_isKept_A mo_people mo_shots mo_looks mo_bride mo_hands mo_period mo_shut mo_phase mo_flash mo_quarters mo_tired mo_rows mo_columns mo_rise mo_tall mo_pairs_5 mo_pad mo_padMany mo_cuts mo_at mo_first mo_kept mo_isKept mo_keptAt mo_isWriting) := hD
          refine lv_aload_n (pc := 63) hx hb dX9_pair_63 rfl (lv_at hl 1 rfl) ?_
          refine va_get (pc := 64) (D := D) (ci := 9) (v := .ref mo_pairs_A) (C := RX9) (T := TX9) (N := 25) hx hb hts inG9 hown hK hP 0 rfl rfl 15 (by decide) (hts _ tw_726) (fun _ h9 => h9) rfl dX9_pair_64 ?_
          refine lv_bipush (pc := 67) (v := (8 : Int32)) hx hb dX9_pair_67 (by decide) ?_
          refine lv_iload_n (pc := 69) hx hb dX9_pair_69 rfl (lv_at hl 3 rfl) ?_
          refine lv_imul (pc := 70) hx hb dX9_pair_70 ?_
          refine lv_iload_n (pc := 71) hx hb dX9_pair_71 rfl (lv_at hl 2 rfl) ?_
          refine lv_iadd (pc := 72) hx hb dX9_pair_72 ?_
          refine lv_iload_n (pc := 73) hx hb dX9_pair_73 rfl (lv_at hl 4 rfl) ?_
          refine r_iast (pc := 74) hx hb hK hP hD hS 7 0 rfl rfl hf dX9_pair_74 (fun mo_pairs_6 H locs hf hP hD hS => ?_)
          have hP : va_P D vwCl (w_X9 cI cJ cZ cS mo_A mo_looks_A mo_period_A mo_shut_A mo_phase_A mo_quarters_A mo_tall_A mo_pairs_A mo_pad_A mo_cuts_A mo_at_A mo_first_A mo_kept_A mo_isKept_A mo_people mo_shots mo_looks mo_bride mo_hands mo_period mo_shut mo_phase mo_flash mo_quarters mo_tired mo_rows mo_columns mo_rise mo_tall mo_pairs_6 mo_pad mo_padMany mo_cuts mo_at mo_first mo_kept mo_isKept mo_keptAt mo_isWriting) H := hP
          have hD : va_D A (w_X9 cI cJ cZ cS mo_A mo_looks_A mo_period_A mo_shut_A mo_phase_A mo_quarters_A mo_tall_A mo_pairs_A mo_pad_A mo_cuts_A mo_at_A mo_first_A mo_kept_A mo_isKept_A mo_people mo_shots mo_looks mo_bride mo_hands mo_period mo_shut mo_phase mo_flash mo_quarters mo_tired mo_rows mo_columns mo_rise mo_tall mo_pairs_6 mo_pad mo_padMany mo_cuts mo_at mo_first mo_kept mo_isKept mo_keptAt mo_isWriting) := hD
          refine lv_iload (pc := 75) hx hb dX9_pair_75 (lv_at hl 0 rfl) ?_
          cases hf
          exact hQ _ _ _ _ _ dX9_pair_77 rfl hP hD hS
        · refine lv_bipush (pc := 35) (v := (-2 : Int32)) hx hb dX9_pair_35 (by decide) ?_
          cases hf
          exact hQ _ _ _ _ _ dX9_pair_37 rfl hP hD hS
      · refine lv_iconst (pc := 21) (v := (-1 : Int32)) hx hb dX9_pair_21 (by decide) ?_
        cases hf
        exact hQ _ _ _ _ _ dX9_pair_22 rfl hP hD hS
theorem F_X9_heightOf : CalF yX9_heightOf cX9_heightOf 2 (some .int) 1 := ⟨tw_1003, tw_10, by decide +kernel⟩
set_option maxRecDepth 100000 in
set_option maxHeartbeats 4000000 in
theorem c_X9_heightOf (l : Launch) (D : va_G) (cI cJ cZ cS : ClassId) (mo_A mo_looks_A mo_period_A mo_shut_A mo_phase_A mo_quarters_A mo_tall_A mo_pairs_A mo_pad_A mo_cuts_A mo_at_A mo_first_A mo_kept_A mo_isKept_A : Nat) (mo_people : Int32) (mo_shots : Int32) (mo_looks : Nat → Int32) (mo_bride : Int32) (mo_hands : Int32) (mo_period : Nat → Int32) (mo_shut : Nat → Int32) (mo_phase : Nat → Int32) (mo_flash : Int32) (mo_quarters : Nat → Int32) (mo_tired : Int32) (mo_rows : Int32) (mo_columns : Int32) (mo_rise : Int32) (mo_tall : Nat → Int32) (mo_pairs : Nat → Int32) (mo_pad : Nat → Int32) (mo_padMany : Int32) (mo_cuts : Nat → Int32) (mo_at : Nat → Int32) (mo_first : Nat → Int32) (mo_kept : Nat → Int32) (mo_isKept : Nat → Int32) (mo_keptAt : Int32) (mo_isWriting : Int32) (p1 : Int32) (r : Int32) (hf : f_X9_heightOf mo_columns mo_rise mo_tall mo_at p1 = some r) : RoC l D cI cJ cZ cS yX9_heightOf cX9_heightOf 2 (some .int) 0 0 (w_X9 cI cJ cZ cS mo_A mo_looks_A mo_period_A mo_shut_A mo_phase_A mo_quarters_A mo_tall_A mo_pairs_A mo_pad_A mo_cuts_A mo_at_A mo_first_A mo_kept_A mo_isKept_A mo_people mo_shots mo_looks mo_bride mo_hands mo_period mo_shut mo_phase mo_flash mo_quarters mo_tired mo_rows mo_columns mo_rise mo_tall mo_pairs mo_pad mo_padMany mo_cuts mo_at mo_first mo_kept mo_isKept mo_keptAt mo_isWriting) [.ref mo_A, .int p1] (some (.int r)) := by
  refine ro_in_i (own := RX9) (by decide +kernel) rfl (Nat.le_of_ble_eq_true rfl) ?_
  intro p e s m args below meth c ls Q E hQ hP hl
  obtain ⟨hx, hb, hml, hown, hts, hK, hN, hAO⟩ := id E
  have hl : lv_has ls 2 [(0, .ref mo_A), (1, .int p1)] := hl
  unfold f_X9_heightOf at hf
  refine lv_aload_n (pc := 0) hx hb dX9_heightOf_0 rfl (lv_at hl 0 rfl) ?_
  refine va_get (pc := 1) (D := D) (ci := 9) (v := .ref mo_tall_A) (C := RX9) (T := TX9) (N := 25) hx hb hts inG9 hown hK hP 0 rfl rfl 14 (by decide) (hts _ tw_725) (fun _ h9 => h9) rfl dX9_heightOf_1 ?_
  refine lv_iload_n (pc := 4) hx hb dX9_heightOf_4 rfl (lv_at hl 1 rfl) ?_
  refine r_iald (pc := 5) hx hb hK hP 6 0 rfl rfl hf dX9_heightOf_5 (fun v1 hf => ?_)
  refine lv_aload_n (pc := 6) hx hb dX9_heightOf_6 rfl (lv_at hl 0 rfl) ?_
  refine va_get (pc := 7) (D := D) (ci := 9) (v := .int mo_rise) (C := RX9) (T := TX9) (N := 25) hx hb hts inG9 hown hK hP 0 rfl rfl 13 (by decide) (hts _ tw_724) (fun _ h9 => h9) rfl dX9_heightOf_7 ?_
  refine lv_aload_n (pc := 10) hx hb dX9_heightOf_10 rfl (lv_at hl 0 rfl) ?_
  refine va_get (pc := 11) (D := D) (ci := 9) (v := .ref mo_at_A) (C := RX9) (T := TX9) (N := 25) hx hb hts inG9 hown hK hP 0 rfl rfl 19 (by decide) (hts _ tw_730) (fun _ h9 => h9) rfl dX9_heightOf_11 ?_
  refine lv_iload_n (pc := 14) hx hb dX9_heightOf_14 rfl (lv_at hl 1 rfl) ?_
  refine r_iald (pc := 15) hx hb hK hP 10 0 rfl rfl hf dX9_heightOf_15 (fun v2 hf => ?_)
  refine lv_aload_n (pc := 16) hx hb dX9_heightOf_16 rfl (lv_at hl 0 rfl) ?_
  refine va_get (pc := 17) (D := D) (ci := 9) (v := .int mo_columns) (C := RX9) (T := TX9) (N := 25) hx hb hts inG9 hown hK hP 0 rfl rfl 12 (by decide) (hts _ tw_723) (fun _ h9 => h9) rfl dX9_heightOf_17 ?_
  refine r_idiv (pc := 20) hx hb hf dX9_heightOf_20 (fun v3 hf => ?_)
  refine lv_imul (pc := 21) hx hb dX9_heightOf_21 ?_
  refine lv_iadd (pc := 22) hx hb dX9_heightOf_22 ?_
  exact hQ _ _ _ dX9_heightOf_23 hf
