theorem F_X9_badIn : CalF yX9_badIn cX9_badIn 4 (some .int) 1 := ⟨tw_848, tw_10, by decide +kernel⟩
set_option maxRecDepth 100000 in
set_option maxHeartbeats 4000000 in
theorem c_X9_badIn (l : Launch) (D : va_G) (cI cJ cZ cS : ClassId) (N : Nat) (mo_A mo_looks_A mo_period_A mo_shut_A mo_phase_A mo_quarters_A mo_tall_A mo_pairs_A mo_pad_A mo_cuts_A mo_at_A mo_first_A mo_kept_A mo_isKept_A : Nat) (mo_people : Int32) (mo_shots : Int32) (mo_looks : Nat → Int32) (mo_bride : Int32) (mo_hands : Int32) (mo_period : Nat → Int32) (mo_shut : Nat → Int32) (mo_phase : Nat → Int32) (mo_flash : Int32) (mo_quarters : Nat → Int32) (mo_tired : Int32) (mo_rows : Int32) (mo_columns : Int32) (mo_rise : Int32) (mo_tall : Nat → Int32) (mo_pairs : Nat → Int32) (mo_pad : Nat → Int32) (mo_padMany : Int32) (mo_cuts : Nat → Int32) (mo_at : Nat → Int32) (mo_first : Nat → Int32) (mo_kept : Nat → Int32) (mo_isKept : Nat → Int32) (mo_keptAt : Int32) (mo_isWriting : Int32) (p1 : Int32) (r : Int32) (hf : f_X9_badIn N mo_people mo_looks p1 = some r) : RoC l D cI cJ cZ cS yX9_badIn cX9_badIn 4 (some .int) 1 22 (w_X9 cI cJ cZ cS mo_A mo_looks_A mo_period_A mo_shut_A mo_phase_A mo_quarters_A mo_tall_A mo_pairs_A mo_pad_A mo_cuts_A mo_at_A mo_first_A mo_kept_A mo_isKept_A mo_people mo_shots mo_looks mo_bride mo_hands mo_period mo_shut mo_phase mo_flash mo_quarters mo_tired mo_rows mo_columns mo_rise mo_tall mo_pairs mo_pad mo_padMany mo_cuts mo_at mo_first mo_kept mo_isKept mo_keptAt mo_isWriting) [.ref mo_A, .int p1] (some (.int r)) := by
  refine ro_in_i (own := RX9) (by decide +kernel) rfl (Nat.le_of_ble_eq_true rfl) ?_
  intro p e s m args below meth c ls Q E hQ hP hl
  obtain ⟨hx, hb, hml, hown, hts, hK, hN, hAO⟩ := id E
  have hl : lv_has ls 4 [(0, .ref mo_A), (1, .int p1)] := hl
  unfold f_X9_badIn at hf
  refine lv_iconst (pc := 0) (v := (0 : Int32)) hx hb dX9_badIn_0 (by decide) ?_
  refine lv_istore_n (pc := 1) (lv' := [(2, .int (0 : Int32)), (0, .ref mo_A), (1, .int p1)]) hx hb dX9_badIn_1 rfl hl (by decide) rfl (fun ls hl => ?_)
  refine lv_iconst (pc := 2) (v := (0 : Int32)) hx hb dX9_badIn_2 (by decide) ?_
  refine lv_istore_n (pc := 3) (lv' := [(3, .int (0 : Int32)), (2, .int (0 : Int32)), (0, .ref mo_A), (1, .int p1)]) hx hb dX9_badIn_3 rfl hl (by decide) rfl (fun ls hl => ?_)
  obtain ⟨k4, hk4, hf⟩ := lc1_e hf
  have K4 : ∀ (z5 : Int32) (ls : Array Slot), k4 z5 = some r → lv_has ls 4 [(2, .int z5)] → W p l e (roR 1 22) s m args below meth c s.heap [] 0 0 Q (F0 m 35 ls []) := by
    intro z5 ls hf hl
    rw [hk4] at hf
    refine lv_iload_n (pc := 35) hx hb dX9_badIn_35 rfl (lv_at hl 0 rfl) ?_
    exact hQ _ _ _ dX9_badIn_36 hf
  have L4 : ∀ (n : Nat), ∀ (y1 : Int32) (y2 : Int32) (ls : Array Slot), f_X9_badIn_L4 mo_people mo_looks p1 k4 n y1 y2 = some r → lv_has ls 4 [(0, .ref mo_A), (1, .int p1), (2, .int y1), (3, .int y2)] → W p l e (roR 1 22) s m args below meth c s.heap [] 0 0 Q (F0 m 4 ls []) := by
    intro n
    induction n with
    | zero =>
      intro y1 y2 ls hf
      rw [f_X9_badIn_L4] at hf
      cases hf
    | succ n ih =>
      intro y1 y2 ls hf hl
      rw [f_X9_badIn_L4] at hf
      refine lv_iload_n (pc := 4) hx hb dX9_badIn_4 rfl (lv_at hl 3 rfl) ?_
      refine lv_aload_n (pc := 5) hx hb dX9_badIn_5 rfl (lv_at hl 0 rfl) ?_
      refine va_get (pc := 6) (D := D) (ci := 9) (v := .int mo_people) (C := RX9) (T := TX9) (N := 25) hx hb hts inG9 hown hK hP 0 rfl rfl 0 (by decide) (hts _ tw_711) (fun _ h9 => h9) rfl dX9_badIn_6 ?_
      refine r_ic_ge (pc := 9) (tgt := 35) hx hb dX9_badIn_9 (by decide) hf (fun hf => ?_) (fun hf => ?_)
      · exact K4 _ _ hf (lv_sub hl [2] rfl)
      · refine lv_iload_n (pc := 12) hx hb dX9_badIn_12 rfl (lv_at hl 2 rfl) ?_
        refine lv_aload_n (pc := 13) hx hb dX9_badIn_13 rfl (lv_at hl 0 rfl) ?_
        refine lv_iload_n (pc := 14) hx hb dX9_badIn_14 rfl (lv_at hl 1 rfl) ?_
        refine lv_iload_n (pc := 15) hx hb dX9_badIn_15 rfl (lv_at hl 3 rfl) ?_
        obtain ⟨v6, hv16, hf⟩ := bd_e hf
        refine ro_Vi (pc := 16) (As := [.int p1, .int y2]) (rest := [.int y1]) E (c_X9_isOpen l D cI cJ cZ cS mo_A mo_looks_A mo_period_A mo_shut_A mo_phase_A mo_quarters_A mo_tall_A mo_pairs_A mo_pad_A mo_cuts_A mo_at_A mo_first_A mo_kept_A mo_isKept_A mo_people mo_shots mo_looks mo_bride mo_hands mo_period mo_shut mo_phase mo_flash mo_quarters mo_tired mo_rows mo_columns mo_rise mo_tall mo_pairs mo_pad mo_padMany mo_cuts mo_at mo_first mo_kept mo_isKept mo_keptAt mo_isWriting p1 y2 v6 hv16) F_X9_isOpen rfl rfl tw_849 tw_851 tp_27 hP ⟨by decide, by decide⟩ rfl hl.1 (Nat.le_of_ble_eq_true rfl) ⟨by decide, by decide⟩ rfl dX9_badIn_16 ?_
        obtain ⟨k7, hk7, hf⟩ := lc1_e hf
        have K7 : ∀ (x8 : Int32) (ls : Array Slot), k7 x8 = some r → lv_has ls 4 [(0, .ref mo_A), (1, .int p1), (3, .int y2)] → W p l e (roR 1 22) s m args below meth c s.heap [] 0 0 Q (F0 m 27 ls [.int x8, .int y1]) := by
          intro x8 ls hf hl
          rw [hk7] at hf
          refine lv_iadd (pc := 27) hx hb dX9_badIn_27 ?_
          refine lv_istore_n (pc := 28) (lv' := [(2, .int (y1 + x8)), (0, .ref mo_A), (1, .int p1), (3, .int y2)]) hx hb dX9_badIn_28 rfl hl (by decide) rfl (fun ls hl => ?_)
          refine lv_iinc (pc := 29) (v := (y2 + (1 : Int32))) (lv' := [(3, .int (y2 + (1 : Int32))), (2, .int (y1 + x8)), (0, .ref mo_A), (1, .int p1)]) hx hb dX9_badIn_29 hl (k := 3) rfl (by rfl) (by decide) rfl (fun ls hl => ?_)
          refine lv_goto (pc := 32) (tgt := 4) hx hb dX9_badIn_32 (by decide) ?_
          exact ih _ _ _ hf (lv_sub hl [2, 3, 1, 0] rfl)
        refine r_if_eq (pc := 19) (tgt := 26) hx hb dX9_badIn_19 (by decide) hf (fun hf => ?_) (fun hf => ?_)
        · refine lv_iconst (pc := 26) (v := (1 : Int32)) hx hb dX9_badIn_26 (by decide) ?_
          exact K7 _ _ hf (lv_sub hl [0, 1, 3] rfl)
        · refine lv_iconst (pc := 22) (v := (0 : Int32)) hx hb dX9_badIn_22 (by decide) ?_
          refine lv_goto (pc := 23) (tgt := 27) hx hb dX9_badIn_23 (by decide) ?_
          exact K7 _ _ hf (lv_sub hl [0, 1, 3] rfl)
  exact L4 N _ _ _ hf (lv_sub hl [2, 3, 1, 0] rfl)
theorem F_X9_hiddenIn : CalF yX9_hiddenIn cX9_hiddenIn 4 (some .int) 1 := ⟨tw_856, tw_10, by decide +kernel⟩
set_option maxRecDepth 100000 in
set_option maxHeartbeats 4000000 in
theorem c_X9_hiddenIn (l : Launch) (D : va_G) (cI cJ cZ cS : ClassId) (N : Nat) (mo_A mo_looks_A mo_period_A mo_shut_A mo_phase_A mo_quarters_A mo_tall_A mo_pairs_A mo_pad_A mo_cuts_A mo_at_A mo_first_A mo_kept_A mo_isKept_A : Nat) (mo_people : Int32) (mo_shots : Int32) (mo_looks : Nat → Int32) (mo_bride : Int32) (mo_hands : Int32) (mo_period : Nat → Int32) (mo_shut : Nat → Int32) (mo_phase : Nat → Int32) (mo_flash : Int32) (mo_quarters : Nat → Int32) (mo_tired : Int32) (mo_rows : Int32) (mo_columns : Int32) (mo_rise : Int32) (mo_tall : Nat → Int32) (mo_pairs : Nat → Int32) (mo_pad : Nat → Int32) (mo_padMany : Int32) (mo_cuts : Nat → Int32) (mo_at : Nat → Int32) (mo_first : Nat → Int32) (mo_kept : Nat → Int32) (mo_isKept : Nat → Int32) (mo_keptAt : Int32) (mo_isWriting : Int32) (p1 : Int32) (r : Int32) (hf : f_X9_hiddenIn N mo_people mo_looks p1 = some r) : RoC l D cI cJ cZ cS yX9_hiddenIn cX9_hiddenIn 4 (some .int) 0 0 (w_X9 cI cJ cZ cS mo_A mo_looks_A mo_period_A mo_shut_A mo_phase_A mo_quarters_A mo_tall_A mo_pairs_A mo_pad_A mo_cuts_A mo_at_A mo_first_A mo_kept_A mo_isKept_A mo_people mo_shots mo_looks mo_bride mo_hands mo_period mo_shut mo_phase mo_flash mo_quarters mo_tired mo_rows mo_columns mo_rise mo_tall mo_pairs mo_pad mo_padMany mo_cuts mo_at mo_first mo_kept mo_isKept mo_keptAt mo_isWriting) [.ref mo_A, .int p1] (some (.int r)) := by
  refine ro_in_i (own := RX9) (by decide +kernel) rfl (Nat.le_of_ble_eq_true rfl) ?_
  intro p e s m args below meth c ls Q E hQ hP hl
  obtain ⟨hx, hb, hml, hown, hts, hK, hN, hAO⟩ := id E
  have hl : lv_has ls 4 [(0, .ref mo_A), (1, .int p1)] := hl
  unfold f_X9_hiddenIn at hf
  refine lv_iconst (pc := 0) (v := (0 : Int32)) hx hb dX9_hiddenIn_0 (by decide) ?_
  refine lv_istore_n (pc := 1) (lv' := [(2, .int (0 : Int32)), (0, .ref mo_A), (1, .int p1)]) hx hb dX9_hiddenIn_1 rfl hl (by decide) rfl (fun ls hl => ?_)
  refine lv_iconst (pc := 2) (v := (0 : Int32)) hx hb dX9_hiddenIn_2 (by decide) ?_
  refine lv_istore_n (pc := 3) (lv' := [(3, .int (0 : Int32)), (2, .int (0 : Int32)), (0, .ref mo_A), (1, .int p1)]) hx hb dX9_hiddenIn_3 rfl hl (by decide) rfl (fun ls hl => ?_)
  obtain ⟨k4, hk4, hf⟩ := lc1_e hf
  have K4 : ∀ (z5 : Int32) (ls : Array Slot), k4 z5 = some r → lv_has ls 4 [(2, .int z5)] → W p l e (roR 0 0) s m args below meth c s.heap [] 0 0 Q (F0 m 42 ls []) := by
    intro z5 ls hf hl
    rw [hk4] at hf
    refine lv_iload_n (pc := 42) hx hb dX9_hiddenIn_42 rfl (lv_at hl 0 rfl) ?_
    exact hQ _ _ _ dX9_hiddenIn_43 hf
  have L4 : ∀ (n : Nat), ∀ (y1 : Int32) (y2 : Int32) (ls : Array Slot), f_X9_hiddenIn_L4 mo_people mo_looks p1 k4 n y1 y2 = some r → lv_has ls 4 [(0, .ref mo_A), (1, .int p1), (2, .int y1), (3, .int y2)] → W p l e (roR 0 0) s m args below meth c s.heap [] 0 0 Q (F0 m 4 ls []) := by
    intro n
    induction n with
    | zero =>
      intro y1 y2 ls hf
      rw [f_X9_hiddenIn_L4] at hf
      cases hf
    | succ n ih =>
      intro y1 y2 ls hf hl
      rw [f_X9_hiddenIn_L4] at hf
      refine lv_iload_n (pc := 4) hx hb dX9_hiddenIn_4 rfl (lv_at hl 3 rfl) ?_
      refine lv_aload_n (pc := 5) hx hb dX9_hiddenIn_5 rfl (lv_at hl 0 rfl) ?_
      refine va_get (pc := 6) (D := D) (ci := 9) (v := .int mo_people) (C := RX9) (T := TX9) (N := 25) hx hb hts inG9 hown hK hP 0 rfl rfl 0 (by decide) (hts _ tw_711) (fun _ h9 => h9) rfl dX9_hiddenIn_6 ?_
      refine r_ic_ge (pc := 9) (tgt := 42) hx hb dX9_hiddenIn_9 (by decide) hf (fun hf => ?_) (fun hf => ?_)
      · exact K4 _ _ hf (lv_sub hl [2] rfl)
      · refine lv_iload_n (pc := 12) hx hb dX9_hiddenIn_12 rfl (lv_at hl 2 rfl) ?_
        refine lv_aload_n (pc := 13) hx hb dX9_hiddenIn_13 rfl (lv_at hl 0 rfl) ?_
        refine va_get (pc := 14) (D := D) (ci := 9) (v := .ref mo_looks_A) (C := RX9) (T := TX9) (N := 25) hx hb hts inG9 hown hK hP 0 rfl rfl 2 (by decide) (hts _ tw_713) (fun _ h9 => h9) rfl dX9_hiddenIn_14 ?_
        refine lv_bipush (pc := 17) (v := (8 : Int32)) hx hb dX9_hiddenIn_17 (by decide) ?_
        refine lv_iload_n (pc := 19) hx hb dX9_hiddenIn_19 rfl (lv_at hl 1 rfl) ?_
        refine lv_imul (pc := 20) hx hb dX9_hiddenIn_20 ?_
        refine lv_iload_n (pc := 21) hx hb dX9_hiddenIn_21 rfl (lv_at hl 3 rfl) ?_
        refine lv_iadd (pc := 22) hx hb dX9_hiddenIn_22 ?_
        refine r_iald (pc := 23) hx hb hK hP 1 0 rfl rfl hf dX9_hiddenIn_23 (fun v6 hf => ?_)
        refine lv_bipush (pc := 24) (v := (104 : Int32)) hx hb dX9_hiddenIn_24 (by decide) ?_
        obtain ⟨k7, hk7, hf⟩ := lc1_e hf
        have K7 : ∀ (x8 : Int32) (ls : Array Slot), k7 x8 = some r → lv_has ls 4 [(0, .ref mo_A), (1, .int p1), (3, .int y2)] → W p l e (roR 0 0) s m args below meth c s.heap [] 0 0 Q (F0 m 34 ls [.int x8, .int y1]) := by
          intro x8 ls hf hl
          rw [hk7] at hf
          refine lv_iadd (pc := 34) hx hb dX9_hiddenIn_34 ?_
          refine lv_istore_n (pc := 35) (lv' := [(2, .int (y1 + x8)), (0, .ref mo_A), (1, .int p1), (3, .int y2)]) hx hb dX9_hiddenIn_35 rfl hl (by decide) rfl (fun ls hl => ?_)
          refine lv_iinc (pc := 36) (v := (y2 + (1 : Int32))) (lv' := [(3, .int (y2 + (1 : Int32))), (2, .int (y1 + x8)), (0, .ref mo_A), (1, .int p1)]) hx hb dX9_hiddenIn_36 hl (k := 3) rfl (by rfl) (by decide) rfl (fun ls hl => ?_)
          refine lv_goto (pc := 39) (tgt := 4) hx hb dX9_hiddenIn_39 (by decide) ?_
          exact ih _ _ _ hf (lv_sub hl [2, 3, 1, 0] rfl)
        refine r_ic_ne (pc := 26) (tgt := 33) hx hb dX9_hiddenIn_26 (by decide) hf (fun hf => ?_) (fun hf => ?_)
        · refine lv_iconst (pc := 33) (v := (0 : Int32)) hx hb dX9_hiddenIn_33 (by decide) ?_
          exact K7 _ _ hf (lv_sub hl [0, 1, 3] rfl)
        · refine lv_iconst (pc := 29) (v := (1 : Int32)) hx hb dX9_hiddenIn_29 (by decide) ?_
          refine lv_goto (pc := 30) (tgt := 34) hx hb dX9_hiddenIn_30 (by decide) ?_
          exact K7 _ _ hf (lv_sub hl [0, 1, 3] rfl)
  exact L4 N _ _ _ hf (lv_sub hl [2, 3, 1, 0] rfl)
theorem F_X9_single : CalF yX9_single cX9_single 6 (some .int) 1 := ⟨tw_844, tw_10, by decide +kernel⟩
set_option maxRecDepth 100000 in
set_option maxHeartbeats 4000000 in
theorem c_X9_single (l : Launch) (D : va_G) (cI cJ cZ cS : ClassId) (N : Nat) (mo_A mo_looks_A mo_period_A mo_shut_A mo_phase_A mo_quarters_A mo_tall_A mo_pairs_A mo_pad_A mo_cuts_A mo_at_A mo_first_A mo_kept_A mo_isKept_A : Nat) (mo_people : Int32) (mo_shots : Int32) (mo_looks : Nat → Int32) (mo_bride : Int32) (mo_hands : Int32) (mo_period : Nat → Int32) (mo_shut : Nat → Int32) (mo_phase : Nat → Int32) (mo_flash : Int32) (mo_quarters : Nat → Int32) (mo_tired : Int32) (mo_rows : Int32) (mo_columns : Int32) (mo_rise : Int32) (mo_tall : Nat → Int32) (mo_pairs : Nat → Int32) (mo_pad : Nat → Int32) (mo_padMany : Int32) (mo_cuts : Nat → Int32) (mo_at : Nat → Int32) (mo_first : Nat → Int32) (mo_kept : Nat → Int32) (mo_isKept : Nat → Int32) (mo_keptAt : Int32) (mo_isWriting : Int32) (p1 : Int32) (r : Int32) (hf : f_X9_single N mo_people mo_shots mo_looks mo_bride p1 = some r) : RoC l D cI cJ cZ cS yX9_single cX9_single 6 (some .int) 2 45 (w_X9 cI cJ cZ cS mo_A mo_looks_A mo_period_A mo_shut_A mo_phase_A mo_quarters_A mo_tall_A mo_pairs_A mo_pad_A mo_cuts_A mo_at_A mo_first_A mo_kept_A mo_isKept_A mo_people mo_shots mo_looks mo_bride mo_hands mo_period mo_shut mo_phase mo_flash mo_quarters mo_tired mo_rows mo_columns mo_rise mo_tall mo_pairs mo_pad mo_padMany mo_cuts mo_at mo_first mo_kept mo_isKept mo_keptAt mo_isWriting) [.ref mo_A, .int p1] (some (.int r)) := by
  refine ro_in_i (own := RX9) (by decide +kernel) rfl (Nat.le_of_ble_eq_true rfl) ?_
  intro p e s m args below meth c ls Q E hQ hP hl
  obtain ⟨hx, hb, hml, hown, hts, hK, hN, hAO⟩ := id E
  have hl : lv_has ls 6 [(0, .ref mo_A), (1, .int p1)] := hl
  unfold f_X9_single at hf
  refine lv_iload_n (pc := 0) hx hb dX9_single_0 rfl (lv_at hl 1 rfl) ?_
  refine lv_i2l (pc := 1) (v := (Int32.toInt64 p1)) hx hb dX9_single_1 rfl ?_
  refine lv_lconst (pc := 2) (v := (0 : Int64)) hx hb dX9_single_2 (by decide) ?_
  refine lv_lconst (pc := 3) (v := (1 : Int64)) hx hb dX9_single_3 (by decide) ?_
  obtain ⟨v1, hv4, hf⟩ := bd_e hf
  refine ro_Si (pc := 4) (As := [.long (Int32.toInt64 p1), .long (0 : Int64), .long (1 : Int64)]) (rest := []) E (c_X9_in l D cI cJ cZ cS (Int32.toInt64 p1) (0 : Int64) (1 : Int64) v1 hv4) F_X9_in tw_793 tw_794  va_P_nil ⟨by decide, by decide⟩ rfl hl.1 (Nat.le_of_ble_eq_true rfl) ⟨by decide, by decide⟩ rfl dX9_single_4 ?_
  refine r_if_ne (pc := 7) (tgt := 13) hx hb dX9_single_7 (by decide) hf (fun hf => ?_) (fun hf => ?_)
  · refine lv_bipush (pc := 13) (v := (-6 : Int32)) hx hb dX9_single_13 (by decide) ?_
    refine lv_istore_n (pc := 15) (lv' := [(2, .int (-6 : Int32)), (0, .ref mo_A), (1, .int p1)]) hx hb dX9_single_15 rfl hl (by decide) rfl (fun ls hl => ?_)
    refine lv_iconst (pc := 16) (v := (0 : Int32)) hx hb dX9_single_16 (by decide) ?_
    refine lv_istore_n (pc := 17) (lv' := [(3, .int (0 : Int32)), (2, .int (-6 : Int32)), (0, .ref mo_A), (1, .int p1)]) hx hb dX9_single_17 rfl hl (by decide) rfl (fun ls hl => ?_)
    refine lv_iconst (pc := 18) (v := (0 : Int32)) hx hb dX9_single_18 (by decide) ?_
    refine lv_istore (pc := 19) (lv' := [(4, .int (0 : Int32)), (3, .int (0 : Int32)), (2, .int (-6 : Int32)), (0, .ref mo_A), (1, .int p1)]) hx hb dX9_single_19 hl (by decide) rfl (fun ls hl => ?_)
    obtain ⟨k6, hk6, hf⟩ := lc2_e hf
    have K6 : ∀ (z7 : Int32) (z8 : Int32) (ls : Array Slot), k6 z7 z8 = some r → lv_has ls 6 [(1, .int p1), (2, .int z7), (3, .int z8)] → W p l e (roR 2 45) s m args below meth c s.heap [] 0 0 Q (F0 m 90 ls []) := by
      intro z7 z8 ls hf hl
      rw [hk6] at hf
      refine lv_iload_n (pc := 90) hx hb dX9_single_90 rfl (lv_at hl 1 rfl) ?_
      refine r_if_ge (pc := 91) (tgt := 99) hx hb dX9_single_91 (by decide) hf (fun hf => ?_) (fun hf => ?_)
      · refine lv_iload_n (pc := 99) hx hb dX9_single_99 rfl (lv_at hl 0 rfl) ?_
        refine r_if_ne (pc := 100) (tgt := 107) hx hb dX9_single_100 (by decide) hf (fun hf => ?_) (fun hf => ?_)
        · refine lv_iload_n (pc := 107) hx hb dX9_single_107 rfl (lv_at hl 2 rfl) ?_
          refine lv_bipush (pc := 108) (v := (10 : Int32)) hx hb dX9_single_108 (by decide) ?_
          refine r_idiv (pc := 110) hx hb hf dX9_single_110 (fun v17 hf => ?_)
          exact hQ _ _ _ dX9_single_111 hf
        · refine lv_iload_n (pc := 103) hx hb dX9_single_103 rfl (lv_at hl 1 rfl) ?_
          refine lv_goto (pc := 104) (tgt := 111) hx hb dX9_single_104 (by decide) ?_
          exact hQ _ _ _ dX9_single_111 hf
      · refine lv_bipush (pc := 94) (v := (-6 : Int32)) hx hb dX9_single_94 (by decide) ?_
        refine lv_goto (pc := 96) (tgt := 111) hx hb dX9_single_96 (by decide) ?_
        exact hQ _ _ _ dX9_single_111 hf
    have L21 : ∀ (n : Nat), ∀ (y2 : Int32) (y3 : Int32) (y4 : Int32) (ls : Array Slot), f_X9_single_L21 mo_people mo_shots mo_looks mo_bride N k6 n y2 y3 y4 = some r → lv_has ls 6 [(0, .ref mo_A), (1, .int p1), (2, .int y2), (3, .int y3), (4, .int y4)] → W p l e (roR 2 45) s m args below meth c s.heap [] 0 0 Q (F0 m 21 ls []) := by
      intro n
      induction n with
      | zero =>
        intro y2 y3 y4 ls hf
        rw [f_X9_single_L21] at hf
        cases hf
      | succ n ih =>
        intro y2 y3 y4 ls hf hl
        rw [f_X9_single_L21] at hf
        refine lv_iload (pc := 21) hx hb dX9_single_21 (lv_at hl 4 rfl) ?_
        refine lv_aload_n (pc := 23) hx hb dX9_single_23 rfl (lv_at hl 0 rfl) ?_
        refine va_get (pc := 24) (D := D) (ci := 9) (v := .int mo_shots) (C := RX9) (T := TX9) (N := 25) hx hb hts inG9 hown hK hP 0 rfl rfl 1 (by decide) (hts _ tw_712) (fun _ h9 => h9) rfl dX9_single_24 ?_
        refine r_ic_ge (pc := 27) (tgt := 90) hx hb dX9_single_27 (by decide) hf (fun hf => ?_) (fun hf => ?_)
        · exact K6 _ _ _ hf (lv_sub hl [1, 2, 3] rfl)
        · refine lv_bipush (pc := 30) (v := (10 : Int32)) hx hb dX9_single_30 (by decide) ?_
          refine lv_aload_n (pc := 32) hx hb dX9_single_32 rfl (lv_at hl 0 rfl) ?_
          refine lv_iload (pc := 33) hx hb dX9_single_33 (lv_at hl 4 rfl) ?_
          obtain ⟨v9, hv35, hf⟩ := bd_e hf
          refine ro_Vi (pc := 35) (As := [.int y4]) (rest := [.int (10 : Int32)]) E (c_X9_badIn l D cI cJ cZ cS N mo_A mo_looks_A mo_period_A mo_shut_A mo_phase_A mo_quarters_A mo_tall_A mo_pairs_A mo_pad_A mo_cuts_A mo_at_A mo_first_A mo_kept_A mo_isKept_A mo_people mo_shots mo_looks mo_bride mo_hands mo_period mo_shut mo_phase mo_flash mo_quarters mo_tired mo_rows mo_columns mo_rise mo_tall mo_pairs mo_pad mo_padMany mo_cuts mo_at mo_first mo_kept mo_isKept mo_keptAt mo_isWriting y4 v9 hv35) F_X9_badIn rfl rfl tw_845 tw_847 tp_26 hP ⟨by decide, by decide⟩ rfl hl.1 (Nat.le_of_ble_eq_true rfl) ⟨by decide, by decide⟩ rfl dX9_single_35 ?_
          refine lv_imul (pc := 38) hx hb dX9_single_38 ?_
          refine lv_aload_n (pc := 39) hx hb dX9_single_39 rfl (lv_at hl 0 rfl) ?_
          refine lv_iload (pc := 40) hx hb dX9_single_40 (lv_at hl 4 rfl) ?_
          obtain ⟨v10, hv42, hf⟩ := bd_e hf
          refine ro_Vi (pc := 42) (As := [.int y4]) (rest := [.int ((10 : Int32) * v9)]) E (c_X9_hiddenIn l D cI cJ cZ cS N mo_A mo_looks_A mo_period_A mo_shut_A mo_phase_A mo_quarters_A mo_tall_A mo_pairs_A mo_pad_A mo_cuts_A mo_at_A mo_first_A mo_kept_A mo_isKept_A mo_people mo_shots mo_looks mo_bride mo_hands mo_period mo_shut mo_phase mo_flash mo_quarters mo_tired mo_rows mo_columns mo_rise mo_tall mo_pairs mo_pad mo_padMany mo_cuts mo_at mo_first mo_kept mo_isKept mo_keptAt mo_isWriting y4 v10 hv42) F_X9_hiddenIn rfl rfl tw_853 tw_855 tp_28 hP ⟨by decide, by decide⟩ rfl hl.1 (Nat.le_of_ble_eq_true rfl) ⟨by decide, by decide⟩ rfl dX9_single_42 ?_
          refine lv_iadd (pc := 45) hx hb dX9_single_45 ?_
          refine lv_istore (pc := 46) (lv' := [(5, .int (((10 : Int32) * v9) + v10)), (0, .ref mo_A), (1, .int p1), (2, .int y2), (3, .int y3), (4, .int y4)]) hx hb dX9_single_46 hl (by decide) rfl (fun ls hl => ?_)
          refine lv_aload_n (pc := 48) hx hb dX9_single_48 rfl (lv_at hl 1 rfl) ?_
          refine va_get (pc := 49) (D := D) (ci := 9) (v := .int mo_bride) (C := RX9) (T := TX9) (N := 25) hx hb hts inG9 hown hK hP 0 rfl rfl 3 (by decide) (hts _ tw_714) (fun _ h9 => h9) rfl dX9_single_49 ?_
          obtain ⟨k12, hk12, hf⟩ := lc2_e hf
          have K12 : ∀ (x15 : Int32) (x16 : Int32) (ls : Array Slot), k12 x15 x16 = some r → lv_has ls 6 [(0, .ref mo_A), (1, .int p1), (2, .int x15), (3, .int x16), (4, .int y4)] → W p l e (roR 2 45) s m args below meth c s.heap [] 0 0 Q (F0 m 84 ls []) := by
            intro x15 x16 ls hf hl
            rw [hk12] at hf
            refine lv_iinc (pc := 84) (v := (y4 + (1 : Int32))) (lv' := [(4, .int (y4 + (1 : Int32))), (0, .ref mo_A), (1, .int p1), (2, .int x15), (3, .int x16)]) hx hb dX9_single_84 hl (k := 4) rfl (by rfl) (by decide) rfl (fun ls hl => ?_)
            refine lv_goto (pc := 87) (tgt := 21) hx hb dX9_single_87 (by decide) ?_
            exact ih _ _ _ _ hf (lv_sub hl [1, 2, 3, 4, 0] rfl)
          obtain ⟨k11, hk11, hf⟩ := lc0_e hf
          have K11 : ∀  (ls : Array Slot), k11 = some r → lv_has ls 6 [(0, .ref mo_A), (1, .int p1), (2, .int y2), (3, .int y3), (4, .int y4), (5, .int (((10 : Int32) * v9) + v10))] → W p l e (roR 2 45) s m args below meth c s.heap [] 0 0 Q (F0 m 68 ls []) := by
            intro  ls hf hl
            rw [hk11] at hf
            refine lv_iload_n (pc := 68) hx hb dX9_single_68 rfl (lv_at hl 2 rfl) ?_
            obtain ⟨k14, hk14, hf⟩ := lc0_e hf
            have K14 : ∀  (ls : Array Slot), k14 = some r → lv_has ls 6 [(0, .ref mo_A), (1, .int p1), (4, .int y4), (5, .int (((10 : Int32) * v9) + v10))] → W p l e (roR 2 45) s m args below meth c s.heap [] 0 0 Q (F0 m 78 ls []) := by
              intro  ls hf hl
              rw [hk14] at hf
              refine lv_iload (pc := 78) hx hb dX9_single_78 (lv_at hl 2 rfl) ?_
              refine lv_istore_n (pc := 80) (lv' := [(2, .int y4), (0, .ref mo_A), (1, .int p1), (4, .int y4), (5, .int (((10 : Int32) * v9) + v10))]) hx hb dX9_single_80 rfl hl (by decide) rfl (fun ls hl => ?_)
              refine lv_iload (pc := 81) hx hb dX9_single_81 (lv_at hl 4 rfl) ?_
              refine lv_istore_n (pc := 83) (lv' := [(3, .int (((10 : Int32) * v9) + v10)), (2, .int y4), (0, .ref mo_A), (1, .int p1), (4, .int y4), (5, .int (((10 : Int32) * v9) + v10))]) hx hb dX9_single_83 rfl hl (by decide) rfl (fun ls hl => ?_)
              exact K12 _ _ _ hf (lv_sub hl [2, 3, 1, 0, 4] rfl)
            refine r_if_lt (pc := 69) (tgt := 78) hx hb dX9_single_69 (by decide) hf (fun hf => ?_) (fun hf => ?_)
            · exact K14  _ hf (lv_sub hl [0, 1, 4, 5] rfl)
            · refine lv_iload (pc := 72) hx hb dX9_single_72 (lv_at hl 5 rfl) ?_
              refine lv_iload_n (pc := 74) hx hb dX9_single_74 rfl (lv_at hl 3 rfl) ?_
              refine r_ic_ge (pc := 75) (tgt := 84) hx hb dX9_single_75 (by decide) hf (fun hf => ?_) (fun hf => ?_)
              · exact K12 _ _ _ hf (lv_sub hl [0, 1, 2, 3, 4] rfl)
              · exact K14  _ hf (lv_sub hl [0, 1, 4, 5] rfl)
          refine r_if_lt (pc := 52) (tgt := 68) hx hb dX9_single_52 (by decide) hf (fun hf => ?_) (fun hf => ?_)
          · exact K11  _ hf (lv_sub hl [1, 2, 3, 4, 5, 0] rfl)
          · refine lv_aload_n (pc := 55) hx hb dX9_single_55 rfl (lv_at hl 1 rfl) ?_
            refine lv_iload (pc := 56) hx hb dX9_single_56 (lv_at hl 5 rfl) ?_
            refine lv_aload_n (pc := 58) hx hb dX9_single_58 rfl (lv_at hl 1 rfl) ?_
            refine va_get (pc := 59) (D := D) (ci := 9) (v := .int mo_bride) (C := RX9) (T := TX9) (N := 25) hx hb hts inG9 hown hK hP 0 rfl rfl 3 (by decide) (hts _ tw_714) (fun _ h9 => h9) rfl dX9_single_59 ?_
            obtain ⟨v13, hv62, hf⟩ := bd_e hf
            refine ro_Vi (pc := 62) (As := [.int y4, .int mo_bride]) (rest := []) E (c_X9_isOpen l D cI cJ cZ cS mo_A mo_looks_A mo_period_A mo_shut_A mo_phase_A mo_quarters_A mo_tall_A mo_pairs_A mo_pad_A mo_cuts_A mo_at_A mo_first_A mo_kept_A mo_isKept_A mo_people mo_shots mo_looks mo_bride mo_hands mo_period mo_shut mo_phase mo_flash mo_quarters mo_tired mo_rows mo_columns mo_rise mo_tall mo_pairs mo_pad mo_padMany mo_cuts mo_at mo_first mo_kept mo_isKept mo_keptAt mo_isWriting y4 mo_bride v13 hv62) F_X9_isOpen rfl rfl tw_849 tw_851 tp_27 hP ⟨by decide, by decide⟩ rfl hl.1 (Nat.le_of_ble_eq_true rfl) ⟨by decide, by decide⟩ rfl dX9_single_62 ?_
            refine r_if_eq (pc := 65) (tgt := 84) hx hb dX9_single_65 (by decide) hf (fun hf => ?_) (fun hf => ?_)
            · exact K12 _ _ _ hf (lv_sub hl [1, 2, 3, 4, 5] rfl)
            · exact K11  _ hf (lv_sub hl [1, 2, 3, 4, 5, 0] rfl)
    exact L21 N _ _ _ _ hf (lv_sub hl [3, 4, 2, 1, 0] rfl)
  · refine lv_bipush (pc := 10) (v := (-2 : Int32)) hx hb dX9_single_10 (by decide) ?_
    exact hQ _ _ _ dX9_single_12 hf
theorem F_X9_openIn : CalF yX9_openIn cX9_openIn 4 (some .int) 1 := ⟨tw_864, tw_10, by decide +kernel⟩
set_option maxRecDepth 100000 in
set_option maxHeartbeats 4000000 in
theorem c_X9_openIn (l : Launch) (D : va_G) (cI cJ cZ cS : ClassId) (N : Nat) (mo_A mo_looks_A mo_period_A mo_shut_A mo_phase_A mo_quarters_A mo_tall_A mo_pairs_A mo_pad_A mo_cuts_A mo_at_A mo_first_A mo_kept_A mo_isKept_A : Nat) (mo_people : Int32) (mo_shots : Int32) (mo_looks : Nat → Int32) (mo_bride : Int32) (mo_hands : Int32) (mo_period : Nat → Int32) (mo_shut : Nat → Int32) (mo_phase : Nat → Int32) (mo_flash : Int32) (mo_quarters : Nat → Int32) (mo_tired : Int32) (mo_rows : Int32) (mo_columns : Int32) (mo_rise : Int32) (mo_tall : Nat → Int32) (mo_pairs : Nat → Int32) (mo_pad : Nat → Int32) (mo_padMany : Int32) (mo_cuts : Nat → Int32) (mo_at : Nat → Int32) (mo_first : Nat → Int32) (mo_kept : Nat → Int32) (mo_isKept : Nat → Int32) (mo_keptAt : Int32) (mo_isWriting : Int32) (p1 : Int32) (r : Int32) (hf : f_X9_openIn N mo_people mo_looks p1 = some r) : RoC l D cI cJ cZ cS yX9_openIn cX9_openIn 4 (some .int) 1 22 (w_X9 cI cJ cZ cS mo_A mo_looks_A mo_period_A mo_shut_A mo_phase_A mo_quarters_A mo_tall_A mo_pairs_A mo_pad_A mo_cuts_A mo_at_A mo_first_A mo_kept_A mo_isKept_A mo_people mo_shots mo_looks mo_bride mo_hands mo_period mo_shut mo_phase mo_flash mo_quarters mo_tired mo_rows mo_columns mo_rise mo_tall mo_pairs mo_pad mo_padMany mo_cuts mo_at mo_first mo_kept mo_isKept mo_keptAt mo_isWriting) [.ref mo_A, .int p1] (some (.int r)) := by
  refine ro_in_i (own := RX9) (by decide +kernel) rfl (Nat.le_of_ble_eq_true rfl) ?_
  intro p e s m args below meth c ls Q E hQ hP hl
  obtain ⟨hx, hb, hml, hown, hts, hK, hN, hAO⟩ := id E
  have hl : lv_has ls 4 [(0, .ref mo_A), (1, .int p1)] := hl
  unfold f_X9_openIn at hf
  refine lv_iconst (pc := 0) (v := (0 : Int32)) hx hb dX9_openIn_0 (by decide) ?_
  refine lv_istore_n (pc := 1) (lv' := [(2, .int (0 : Int32)), (0, .ref mo_A), (1, .int p1)]) hx hb dX9_openIn_1 rfl hl (by decide) rfl (fun ls hl => ?_)
  refine lv_iconst (pc := 2) (v := (0 : Int32)) hx hb dX9_openIn_2 (by decide) ?_
  refine lv_istore_n (pc := 3) (lv' := [(3, .int (0 : Int32)), (2, .int (0 : Int32)), (0, .ref mo_A), (1, .int p1)]) hx hb dX9_openIn_3 rfl hl (by decide) rfl (fun ls hl => ?_)
  obtain ⟨k4, hk4, hf⟩ := lc1_e hf
  have K4 : ∀ (z5 : Int32) (ls : Array Slot), k4 z5 = some r → lv_has ls 4 [(2, .int z5)] → W p l e (roR 1 22) s m args below meth c s.heap [] 0 0 Q (F0 m 37 ls []) := by
    intro z5 ls hf hl
    rw [hk4] at hf
    refine lv_iload_n (pc := 37) hx hb dX9_openIn_37 rfl (lv_at hl 0 rfl) ?_
    exact hQ _ _ _ dX9_openIn_38 hf
  have L4 : ∀ (n : Nat), ∀ (y1 : Int32) (y2 : Int32) (ls : Array Slot), f_X9_openIn_L4 mo_people mo_looks p1 k4 n y1 y2 = some r → lv_has ls 4 [(0, .ref mo_A), (1, .int p1), (2, .int y1), (3, .int y2)] → W p l e (roR 1 22) s m args below meth c s.heap [] 0 0 Q (F0 m 4 ls []) := by
    intro n
    induction n with
    | zero =>
      intro y1 y2 ls hf
      rw [f_X9_openIn_L4] at hf
      cases hf
    | succ n ih =>
      intro y1 y2 ls hf hl
      rw [f_X9_openIn_L4] at hf
      refine lv_iload_n (pc := 4) hx hb dX9_openIn_4 rfl (lv_at hl 3 rfl) ?_
      refine lv_aload_n (pc := 5) hx hb dX9_openIn_5 rfl (lv_at hl 0 rfl) ?_
      refine va_get (pc := 6) (D := D) (ci := 9) (v := .int mo_people) (C := RX9) (T := TX9) (N := 25) hx hb hts inG9 hown hK hP 0 rfl rfl 0 (by decide) (hts _ tw_711) (fun _ h9 => h9) rfl dX9_openIn_6 ?_
      refine r_ic_ge (pc := 9) (tgt := 37) hx hb dX9_openIn_9 (by decide) hf (fun hf => ?_) (fun hf => ?_)
      · exact K4 _ _ hf (lv_sub hl [2] rfl)
      · refine lv_iload_n (pc := 12) hx hb dX9_openIn_12 rfl (lv_at hl 2 rfl) ?_
        refine lv_aload_n (pc := 13) hx hb dX9_openIn_13 rfl (lv_at hl 0 rfl) ?_
        refine lv_iload_n (pc := 14) hx hb dX9_openIn_14 rfl (lv_at hl 1 rfl) ?_
        refine lv_iload_n (pc := 15) hx hb dX9_openIn_15 rfl (lv_at hl 3 rfl) ?_
        obtain ⟨v6, hv16, hf⟩ := bd_e hf
        refine ro_Vi (pc := 16) (As := [.int p1, .int y2]) (rest := [.int y1]) E (c_X9_isOpen l D cI cJ cZ cS mo_A mo_looks_A mo_period_A mo_shut_A mo_phase_A mo_quarters_A mo_tall_A mo_pairs_A mo_pad_A mo_cuts_A mo_at_A mo_first_A mo_kept_A mo_isKept_A mo_people mo_shots mo_looks mo_bride mo_hands mo_period mo_shut mo_phase mo_flash mo_quarters mo_tired mo_rows mo_columns mo_rise mo_tall mo_pairs mo_pad mo_padMany mo_cuts mo_at mo_first mo_kept mo_isKept mo_keptAt mo_isWriting p1 y2 v6 hv16) F_X9_isOpen rfl rfl tw_849 tw_851 tp_27 hP ⟨by decide, by decide⟩ rfl hl.1 (Nat.le_of_ble_eq_true rfl) ⟨by decide, by decide⟩ rfl dX9_openIn_16 ?_
        obtain ⟨k7, hk7, hf⟩ := lc1_e hf
        have K7 : ∀ (x8 : Int32) (ls : Array Slot), k7 x8 = some r → lv_has ls 4 [(0, .ref mo_A), (1, .int p1), (3, .int y2)] → W p l e (roR 1 22) s m args below meth c s.heap [] 0 0 Q (F0 m 29 ls [.int x8, .int y1]) := by
          intro x8 ls hf hl
          rw [hk7] at hf
          refine lv_ior (pc := 29) hx hb dX9_openIn_29 ?_
          refine lv_istore_n (pc := 30) (lv' := [(2, .int (y1 ||| x8)), (0, .ref mo_A), (1, .int p1), (3, .int y2)]) hx hb dX9_openIn_30 rfl hl (by decide) rfl (fun ls hl => ?_)
          refine lv_iinc (pc := 31) (v := (y2 + (1 : Int32))) (lv' := [(3, .int (y2 + (1 : Int32))), (2, .int (y1 ||| x8)), (0, .ref mo_A), (1, .int p1)]) hx hb dX9_openIn_31 hl (k := 3) rfl (by rfl) (by decide) rfl (fun ls hl => ?_)
          refine lv_goto (pc := 34) (tgt := 4) hx hb dX9_openIn_34 (by decide) ?_
          exact ih _ _ _ hf (lv_sub hl [2, 3, 1, 0] rfl)
        refine r_if_eq (pc := 19) (tgt := 28) hx hb dX9_openIn_19 (by decide) hf (fun hf => ?_) (fun hf => ?_)
        · refine lv_iconst (pc := 28) (v := (0 : Int32)) hx hb dX9_openIn_28 (by decide) ?_
          exact K7 _ _ hf (lv_sub hl [0, 1, 3] rfl)
        · refine lv_iconst (pc := 22) (v := (1 : Int32)) hx hb dX9_openIn_22 (by decide) ?_
          refine lv_iload_n (pc := 23) hx hb dX9_openIn_23 rfl (lv_at hl 3 rfl) ?_
          refine lv_ishl (pc := 24) hx hb dX9_openIn_24 ?_
          refine lv_goto (pc := 25) (tgt := 29) hx hb dX9_openIn_25 (by decide) ?_
          exact K7 _ _ hf (lv_sub hl [0, 1, 3] rfl)
  exact L4 N _ _ _ hf (lv_sub hl [2, 3, 1, 0] rfl)
theorem F_X9_cover : CalF yX9_cover cX9_cover 5 (some .int) 0 := ⟨tw_860, tw_10, by decide +kernel⟩
set_option maxRecDepth 100000 in
set_option maxHeartbeats 4000000 in
theorem c_X9_cover (l : Launch) (D : va_G) (cI cJ cZ cS : ClassId) (N : Nat) (mo_A mo_looks_A mo_period_A mo_shut_A mo_phase_A mo_quarters_A mo_tall_A mo_pairs_A mo_pad_A mo_cuts_A mo_at_A mo_first_A mo_kept_A mo_isKept_A : Nat) (mo_people : Int32) (mo_shots : Int32) (mo_looks : Nat → Int32) (mo_bride : Int32) (mo_hands : Int32) (mo_period : Nat → Int32) (mo_shut : Nat → Int32) (mo_phase : Nat → Int32) (mo_flash : Int32) (mo_quarters : Nat → Int32) (mo_tired : Int32) (mo_rows : Int32) (mo_columns : Int32) (mo_rise : Int32) (mo_tall : Nat → Int32) (mo_pairs : Nat → Int32) (mo_pad : Nat → Int32) (mo_padMany : Int32) (mo_cuts : Nat → Int32) (mo_at : Nat → Int32) (mo_first : Nat → Int32) (mo_kept : Nat → Int32) (mo_isKept : Nat → Int32) (mo_keptAt : Int32) (mo_isWriting : Int32) (r : Int32) (hf : f_X9_cover N mo_people mo_shots mo_looks = some r) : RoC l D cI cJ cZ cS yX9_cover cX9_cover 5 (some .int) 2 45 (w_X9 cI cJ cZ cS mo_A mo_looks_A mo_period_A mo_shut_A mo_phase_A mo_quarters_A mo_tall_A mo_pairs_A mo_pad_A mo_cuts_A mo_at_A mo_first_A mo_kept_A mo_isKept_A mo_people mo_shots mo_looks mo_bride mo_hands mo_period mo_shut mo_phase mo_flash mo_quarters mo_tired mo_rows mo_columns mo_rise mo_tall mo_pairs mo_pad mo_padMany mo_cuts mo_at mo_first mo_kept mo_isKept mo_keptAt mo_isWriting) [.ref mo_A] (some (.int r)) := by
  refine ro_in_i (own := RX9) (by decide +kernel) rfl (Nat.le_of_ble_eq_true rfl) ?_
  intro p e s m args below meth c ls Q E hQ hP hl
  obtain ⟨hx, hb, hml, hown, hts, hK, hN, hAO⟩ := id E
  have hl : lv_has ls 5 [(0, .ref mo_A)] := hl
  unfold f_X9_cover at hf
  refine lv_bipush (pc := 0) (v := (-6 : Int32)) hx hb dX9_cover_0 (by decide) ?_
  refine lv_istore_n (pc := 2) (lv' := [(1, .int (-6 : Int32)), (0, .ref mo_A)]) hx hb dX9_cover_2 rfl hl (by decide) rfl (fun ls hl => ?_)
  refine lv_iconst (pc := 3) (v := (0 : Int32)) hx hb dX9_cover_3 (by decide) ?_
  refine lv_istore_n (pc := 4) (lv' := [(2, .int (0 : Int32)), (1, .int (-6 : Int32)), (0, .ref mo_A)]) hx hb dX9_cover_4 rfl hl (by decide) rfl (fun ls hl => ?_)
  obtain ⟨k4, hk4, hf⟩ := lc1_e hf
  have K4 : ∀ (z5 : Int32) (ls : Array Slot), k4 z5 = some r → lv_has ls 5 [(1, .int z5)] → W p l e (roR 2 45) s m args below meth c s.heap [] 0 0 Q (F0 m 109 ls []) := by
    intro z5 ls hf hl
    rw [hk4] at hf
    refine lv_iload_n (pc := 109) hx hb dX9_cover_109 rfl (lv_at hl 0 rfl) ?_
    exact hQ _ _ _ dX9_cover_110 hf
  have L5 : ∀ (n : Nat), ∀ (y1 : Int32) (y2 : Int32) (ls : Array Slot), f_X9_cover_L5 mo_people mo_shots mo_looks N k4 n y1 y2 = some r → lv_has ls 5 [(0, .ref mo_A), (1, .int y1), (2, .int y2)] → W p l e (roR 2 45) s m args below meth c s.heap [] 0 0 Q (F0 m 5 ls []) := by
    intro n
    induction n with
    | zero =>
      intro y1 y2 ls hf
      rw [f_X9_cover_L5] at hf
      cases hf
    | succ n ih =>
      intro y1 y2 ls hf hl
      rw [f_X9_cover_L5] at hf
      refine lv_iload_n (pc := 5) hx hb dX9_cover_5 rfl (lv_at hl 2 rfl) ?_
      refine lv_iconst (pc := 6) (v := (1 : Int32)) hx hb dX9_cover_6 (by decide) ?_
      refine lv_aload_n (pc := 7) hx hb dX9_cover_7 rfl (lv_at hl 0 rfl) ?_
      refine va_get (pc := 8) (D := D) (ci := 9) (v := .int mo_shots) (C := RX9) (T := TX9) (N := 25) hx hb hts inG9 hown hK hP 0 rfl rfl 1 (by decide) (hts _ tw_712) (fun _ h9 => h9) rfl dX9_cover_8 ?_
      refine lv_ishl (pc := 11) hx hb dX9_cover_11 ?_
      refine r_ic_ge (pc := 12) (tgt := 109) hx hb dX9_cover_12 (by decide) hf (fun hf => ?_) (fun hf => ?_)
      · exact K4 _ _ hf (lv_sub hl [1] rfl)
      · refine lv_iconst (pc := 15) (v := (0 : Int32)) hx hb dX9_cover_15 (by decide) ?_
        refine lv_istore_n (pc := 16) (lv' := [(3, .int (0 : Int32)), (0, .ref mo_A), (1, .int y1), (2, .int y2)]) hx hb dX9_cover_16 rfl hl (by decide) rfl (fun ls hl => ?_)
        refine lv_iconst (pc := 17) (v := (0 : Int32)) hx hb dX9_cover_17 (by decide) ?_
        refine lv_istore (pc := 18) (lv' := [(4, .int (0 : Int32)), (3, .int (0 : Int32)), (0, .ref mo_A), (1, .int y1), (2, .int y2)]) hx hb dX9_cover_18 hl (by decide) rfl (fun ls hl => ?_)
        obtain ⟨k9, hk9, hf⟩ := lc1_e hf
        have K9 : ∀ (z10 : Int32) (ls : Array Slot), k9 z10 = some r → lv_has ls 5 [(0, .ref mo_A), (1, .int y1), (2, .int y2), (3, .int z10)] → W p l e (roR 2 45) s m args below meth c s.heap [] 0 0 Q (F0 m 58 ls []) := by
          intro z10 ls hf hl
          rw [hk9] at hf
          refine lv_iload_n (pc := 58) hx hb dX9_cover_58 rfl (lv_at hl 3 rfl) ?_
          refine lv_iconst (pc := 59) (v := (1 : Int32)) hx hb dX9_cover_59 (by decide) ?_
          refine lv_aload_n (pc := 60) hx hb dX9_cover_60 rfl (lv_at hl 0 rfl) ?_
          refine va_get (pc := 61) (D := D) (ci := 9) (v := .int mo_people) (C := RX9) (T := TX9) (N := 25) hx hb hts inG9 hown hK hP 0 rfl rfl 0 (by decide) (hts _ tw_711) (fun _ h9 => h9) rfl dX9_cover_61 ?_
          refine lv_ishl (pc := 64) hx hb dX9_cover_64 ?_
          refine lv_iconst (pc := 65) (v := (1 : Int32)) hx hb dX9_cover_65 (by decide) ?_
          refine lv_isub (pc := 66) hx hb dX9_cover_66 ?_
          obtain ⟨k14, hk14, hf⟩ := lc1_e hf
          have K14 : ∀ (x15 : Int32) (ls : Array Slot), k14 x15 = some r → lv_has ls 5 [(0, .ref mo_A), (1, .int y1), (2, .int y2)] → W p l e (roR 2 45) s m args below meth c s.heap [] 0 0 Q (F0 m 75 ls [.int x15]) := by
            intro x15 ls hf hl
            rw [hk14] at hf
            refine lv_istore (pc := 75) (lv' := [(4, .int x15), (0, .ref mo_A), (1, .int y1), (2, .int y2)]) hx hb dX9_cover_75 hl (by decide) rfl (fun ls hl => ?_)
            refine lv_iload (pc := 77) hx hb dX9_cover_77 (lv_at hl 0 rfl) ?_
            obtain ⟨k17, hk17, hf⟩ := lc1_e hf
            have K17 : ∀ (x21 : Int32) (ls : Array Slot), k17 x21 = some r → lv_has ls 5 [(0, .ref mo_A), (2, .int y2)] → W p l e (roR 2 45) s m args below meth c s.heap [] 0 0 Q (F0 m 102 ls [.int x21]) := by
              intro x21 ls hf hl
              rw [hk17] at hf
              refine lv_istore_n (pc := 102) (lv' := [(1, .int x21), (0, .ref mo_A), (2, .int y2)]) hx hb dX9_cover_102 rfl hl (by decide) rfl (fun ls hl => ?_)
              refine lv_iinc (pc := 103) (v := (y2 + (1 : Int32))) (lv' := [(2, .int (y2 + (1 : Int32))), (1, .int x21), (0, .ref mo_A)]) hx hb dX9_cover_103 hl (k := 2) rfl (by rfl) (by decide) rfl (fun ls hl => ?_)
              refine lv_goto (pc := 106) (tgt := 5) hx hb dX9_cover_106 (by decide) ?_
              exact ih _ _ _ hf (lv_sub hl [2, 1, 0] rfl)
            obtain ⟨k16, hk16, hf⟩ := lc0_e hf
            have K16 : ∀  (ls : Array Slot), k16 = some r → lv_has ls 5 [(0, .ref mo_A), (1, .int y1), (2, .int y2)] → W p l e (roR 2 45) s m args below meth c s.heap [] 0 0 Q (F0 m 101 ls []) := by
              intro  ls hf hl
              rw [hk16] at hf
              refine lv_iload_n (pc := 101) hx hb dX9_cover_101 rfl (lv_at hl 1 rfl) ?_
              exact K17 _ _ hf (lv_sub hl [0, 2] rfl)
            refine r_if_eq (pc := 79) (tgt := 101) hx hb dX9_cover_79 (by decide) hf (fun hf => ?_) (fun hf => ?_)
            · exact K16  _ hf (lv_sub hl [1, 2, 3] rfl)
            · refine lv_iload_n (pc := 82) hx hb dX9_cover_82 rfl (lv_at hl 2 rfl) ?_
              obtain ⟨k18, hk18, hf⟩ := lc0_e hf
              have K18 : ∀  (ls : Array Slot), k18 = some r → lv_has ls 5 [(0, .ref mo_A), (2, .int y2)] → W p l e (roR 2 45) s m args below meth c s.heap [] 0 0 Q (F0 m 97 ls []) := by
                intro  ls hf hl
                rw [hk18] at hf
                refine lv_iload_n (pc := 97) hx hb dX9_cover_97 rfl (lv_at hl 1 rfl) ?_
                refine lv_goto (pc := 98) (tgt := 102) hx hb dX9_cover_98 (by decide) ?_
                exact K17 _ _ hf hl
              refine r_if_lt (pc := 83) (tgt := 97) hx hb dX9_cover_83 (by decide) hf (fun hf => ?_) (fun hf => ?_)
              · exact K18  _ hf (lv_sub hl [1, 3] rfl)
              · refine lv_iload_n (pc := 86) hx hb dX9_cover_86 rfl (lv_at hl 3 rfl) ?_
                obtain ⟨v19, hv87, hf⟩ := bd_e hf
                refine ro_Si (pc := 87) (As := [.int y2]) (rest := []) E (c_X9_ones l D cI cJ cZ cS N y2 v19 hv87) F_X9_ones tw_865 tw_866  va_P_nil ⟨by decide, by decide⟩ rfl hl.1 (Nat.le_of_ble_eq_true rfl) ⟨by decide, by decide⟩ rfl dX9_cover_87 ?_
                refine lv_iload_n (pc := 90) hx hb dX9_cover_90 rfl (lv_at hl 2 rfl) ?_
                obtain ⟨v20, hv91, hf⟩ := bd_e hf
                refine ro_Si (pc := 91) (As := [.int y1]) (rest := [.int v19]) E (c_X9_ones l D cI cJ cZ cS N y1 v20 hv91) F_X9_ones tw_865 tw_866  va_P_nil ⟨by decide, by decide⟩ rfl hl.1 (Nat.le_of_ble_eq_true rfl) ⟨by decide, by decide⟩ rfl dX9_cover_91 ?_
                refine r_ic_ge (pc := 94) (tgt := 101) hx hb dX9_cover_94 (by decide) hf (fun hf => ?_) (fun hf => ?_)
                · exact K16  _ hf (lv_sub hl [1, 2, 3] rfl)
                · exact K18  _ hf (lv_sub hl [1, 3] rfl)
          refine r_ic_ne (pc := 67) (tgt := 74) hx hb dX9_cover_67 (by decide) hf (fun hf => ?_) (fun hf => ?_)
          · refine lv_iconst (pc := 74) (v := (0 : Int32)) hx hb dX9_cover_74 (by decide) ?_
            exact K14 _ _ hf (lv_sub hl [0, 1, 2] rfl)
          · refine lv_iconst (pc := 70) (v := (1 : Int32)) hx hb dX9_cover_70 (by decide) ?_
            refine lv_goto (pc := 71) (tgt := 75) hx hb dX9_cover_71 (by decide) ?_
            exact K14 _ _ hf (lv_sub hl [0, 1, 2] rfl)
        have L20 : ∀ (n : Nat), ∀ (y6 : Int32) (y7 : Int32) (ls : Array Slot), f_X9_cover_L20 mo_people mo_shots mo_looks y2 N k9 n y6 y7 = some r → lv_has ls 5 [(0, .ref mo_A), (1, .int y1), (2, .int y2), (3, .int y6), (4, .int y7)] → W p l e (roR 2 45) s m args below meth c s.heap [] 0 0 Q (F0 m 20 ls []) := by
          intro n
          induction n with
          | zero =>
            intro y6 y7 ls hf
            rw [f_X9_cover_L20] at hf
            cases hf
          | succ n ih =>
            intro y6 y7 ls hf hl
            rw [f_X9_cover_L20] at hf
            refine lv_iload (pc := 20) hx hb dX9_cover_20 (lv_at hl 4 rfl) ?_
            refine lv_aload_n (pc := 22) hx hb dX9_cover_22 rfl (lv_at hl 0 rfl) ?_
            refine va_get (pc := 23) (D := D) (ci := 9) (v := .int mo_shots) (C := RX9) (T := TX9) (N := 25) hx hb hts inG9 hown hK hP 0 rfl rfl 1 (by decide) (hts _ tw_712) (fun _ h9 => h9) rfl dX9_cover_23 ?_
            refine r_ic_ge (pc := 26) (tgt := 58) hx hb dX9_cover_26 (by decide) hf (fun hf => ?_) (fun hf => ?_)
            · exact K9 _ _ hf (lv_sub hl [0, 1, 2, 3] rfl)
            · refine lv_iload_n (pc := 29) hx hb dX9_cover_29 rfl (lv_at hl 3 rfl) ?_
              refine lv_iload_n (pc := 30) hx hb dX9_cover_30 rfl (lv_at hl 2 rfl) ?_
              refine lv_iload (pc := 31) hx hb dX9_cover_31 (lv_at hl 4 rfl) ?_
              refine lv_ishr (pc := 33) hx hb dX9_cover_33 ?_
              refine lv_iconst (pc := 34) (v := (1 : Int32)) hx hb dX9_cover_34 (by decide) ?_
              refine lv_iand (pc := 35) hx hb dX9_cover_35 ?_
              refine lv_iconst (pc := 36) (v := (1 : Int32)) hx hb dX9_cover_36 (by decide) ?_
              obtain ⟨k11, hk11, hf⟩ := lc1_e hf
              have K11 : ∀ (x13 : Int32) (ls : Array Slot), k11 x13 = some r → lv_has ls 5 [(0, .ref mo_A), (1, .int y1), (2, .int y2), (4, .int y7)] → W p l e (roR 2 45) s m args below meth c s.heap [] 0 0 Q (F0 m 50 ls [.int x13, .int y6]) := by
                intro x13 ls hf hl
                rw [hk11] at hf
                refine lv_ior (pc := 50) hx hb dX9_cover_50 ?_
                refine lv_istore_n (pc := 51) (lv' := [(3, .int (y6 ||| x13)), (0, .ref mo_A), (1, .int y1), (2, .int y2), (4, .int y7)]) hx hb dX9_cover_51 rfl hl (by decide) rfl (fun ls hl => ?_)
                refine lv_iinc (pc := 52) (v := (y7 + (1 : Int32))) (lv' := [(4, .int (y7 + (1 : Int32))), (3, .int (y6 ||| x13)), (0, .ref mo_A), (1, .int y1), (2, .int y2)]) hx hb dX9_cover_52 hl (k := 4) rfl (by rfl) (by decide) rfl (fun ls hl => ?_)
                refine lv_goto (pc := 55) (tgt := 20) hx hb dX9_cover_55 (by decide) ?_
                exact ih _ _ _ hf (lv_sub hl [2, 3, 4, 1, 0] rfl)
              refine r_ic_ne (pc := 37) (tgt := 49) hx hb dX9_cover_37 (by decide) hf (fun hf => ?_) (fun hf => ?_)
              · refine lv_iconst (pc := 49) (v := (0 : Int32)) hx hb dX9_cover_49 (by decide) ?_
                exact K11 _ _ hf (lv_sub hl [0, 1, 2, 4] rfl)
              · refine lv_aload_n (pc := 40) hx hb dX9_cover_40 rfl (lv_at hl 0 rfl) ?_
                refine lv_iload (pc := 41) hx hb dX9_cover_41 (lv_at hl 4 rfl) ?_
                obtain ⟨v12, hv43, hf⟩ := bd_e hf
                refine ro_Vi (pc := 43) (As := [.int y7]) (rest := [.int y6]) E (c_X9_openIn l D cI cJ cZ cS N mo_A mo_looks_A mo_period_A mo_shut_A mo_phase_A mo_quarters_A mo_tall_A mo_pairs_A mo_pad_A mo_cuts_A mo_at_A mo_first_A mo_kept_A mo_isKept_A mo_people mo_shots mo_looks mo_bride mo_hands mo_period mo_shut mo_phase mo_flash mo_quarters mo_tired mo_rows mo_columns mo_rise mo_tall mo_pairs mo_pad mo_padMany mo_cuts mo_at mo_first mo_kept mo_isKept mo_keptAt mo_isWriting y7 v12 hv43) F_X9_openIn rfl rfl tw_861 tw_863 tp_29 hP ⟨by decide, by decide⟩ rfl hl.1 (Nat.le_of_ble_eq_true rfl) ⟨by decide, by decide⟩ rfl dX9_cover_43 ?_
                refine lv_goto (pc := 46) (tgt := 50) hx hb dX9_cover_46 (by decide) ?_
                exact K11 _ _ hf (lv_sub hl [0, 1, 2, 4] rfl)
        exact L20 N _ _ _ hf (lv_sub hl [2, 3, 4, 1, 0] rfl)
  exact L5 N _ _ _ hf (lv_sub hl [2, 1, 0] rfl)
theorem F_X9_spoils : CalF yX9_spoils cX9_spoils 7 (some .int) 1 := ⟨tw_871, tw_10, by decide +kernel⟩
set_option maxRecDepth 100000 in
set_option maxHeartbeats 4000000 in
theorem c_X9_spoils (l : Launch) (D : va_G) (cI cJ cZ cS : ClassId) (N : Nat) (mo_A mo_looks_A mo_period_A mo_shut_A mo_phase_A mo_quarters_A mo_tall_A mo_pairs_A mo_pad_A mo_cuts_A mo_at_A mo_first_A mo_kept_A mo_isKept_A : Nat) (mo_people : Int32) (mo_shots : Int32) (mo_looks : Nat → Int32) (mo_bride : Int32) (mo_hands : Int32) (mo_period : Nat → Int32) (mo_shut : Nat → Int32) (mo_phase : Nat → Int32) (mo_flash : Int32) (mo_quarters : Nat → Int32) (mo_tired : Int32) (mo_rows : Int32) (mo_columns : Int32) (mo_rise : Int32) (mo_tall : Nat → Int32) (mo_pairs : Nat → Int32) (mo_pad : Nat → Int32) (mo_padMany : Int32) (mo_cuts : Nat → Int32) (mo_at : Nat → Int32) (mo_first : Nat → Int32) (mo_kept : Nat → Int32) (mo_isKept : Nat → Int32) (mo_keptAt : Int32) (mo_isWriting : Int32) (p1 : Int32) (r : Int32) (hf : f_X9_spoils N mo_people mo_shots mo_looks p1 = some r) : RoC l D cI cJ cZ cS yX9_spoils cX9_spoils 7 (some .int) 1 25 (w_X9 cI cJ cZ cS mo_A mo_looks_A mo_period_A mo_shut_A mo_phase_A mo_quarters_A mo_tall_A mo_pairs_A mo_pad_A mo_cuts_A mo_at_A mo_first_A mo_kept_A mo_isKept_A mo_people mo_shots mo_looks mo_bride mo_hands mo_period mo_shut mo_phase mo_flash mo_quarters mo_tired mo_rows mo_columns mo_rise mo_tall mo_pairs mo_pad mo_padMany mo_cuts mo_at mo_first mo_kept mo_isKept mo_keptAt mo_isWriting) [.ref mo_A, .int p1] (some (.int r)) := by
  refine ro_in_i (own := RX9) (by decide +kernel) rfl (Nat.le_of_ble_eq_true rfl) ?_
  intro p e s m args below meth c ls Q E hQ hP hl
  obtain ⟨hx, hb, hml, hown, hts, hK, hN, hAO⟩ := id E
  have hl : lv_has ls 7 [(0, .ref mo_A), (1, .int p1)] := hl
  unfold f_X9_spoils at hf
  refine lv_iload_n (pc := 0) hx hb dX9_spoils_0 rfl (lv_at hl 1 rfl) ?_
  refine lv_i2l (pc := 1) (v := (Int32.toInt64 p1)) hx hb dX9_spoils_1 rfl ?_
  refine lv_lconst (pc := 2) (v := (0 : Int64)) hx hb dX9_spoils_2 (by decide) ?_
  refine lv_lconst (pc := 3) (v := (1 : Int64)) hx hb dX9_spoils_3 (by decide) ?_
  obtain ⟨v1, hv4, hf⟩ := bd_e hf
  refine ro_Si (pc := 4) (As := [.long (Int32.toInt64 p1), .long (0 : Int64), .long (1 : Int64)]) (rest := []) E (c_X9_in l D cI cJ cZ cS (Int32.toInt64 p1) (0 : Int64) (1 : Int64) v1 hv4) F_X9_in tw_793 tw_794  va_P_nil ⟨by decide, by decide⟩ rfl hl.1 (Nat.le_of_ble_eq_true rfl) ⟨by decide, by decide⟩ rfl dX9_spoils_4 ?_
  refine r_if_ne (pc := 7) (tgt := 13) hx hb dX9_spoils_7 (by decide) hf (fun hf => ?_) (fun hf => ?_)
  · refine lv_bipush (pc := 13) (v := (-6 : Int32)) hx hb dX9_spoils_13 (by decide) ?_
    refine lv_istore_n (pc := 15) (lv' := [(2, .int (-6 : Int32)), (0, .ref mo_A), (1, .int p1)]) hx hb dX9_spoils_15 rfl hl (by decide) rfl (fun ls hl => ?_)
    refine lv_iconst (pc := 16) (v := (0 : Int32)) hx hb dX9_spoils_16 (by decide) ?_
    refine lv_istore_n (pc := 17) (lv' := [(3, .int (0 : Int32)), (2, .int (-6 : Int32)), (0, .ref mo_A), (1, .int p1)]) hx hb dX9_spoils_17 rfl hl (by decide) rfl (fun ls hl => ?_)
    refine lv_iconst (pc := 18) (v := (0 : Int32)) hx hb dX9_spoils_18 (by decide) ?_
    refine lv_istore (pc := 19) (lv' := [(4, .int (0 : Int32)), (3, .int (0 : Int32)), (2, .int (-6 : Int32)), (0, .ref mo_A), (1, .int p1)]) hx hb dX9_spoils_19 hl (by decide) rfl (fun ls hl => ?_)
    obtain ⟨k6, hk6, hf⟩ := lc2_e hf
    have K6 : ∀ (z7 : Int32) (z8 : Int32) (ls : Array Slot), k6 z7 z8 = some r → lv_has ls 7 [(1, .int p1), (2, .int z7), (3, .int z8)] → W p l e (roR 1 25) s m args below meth c s.heap [] 0 0 Q (F0 m 104 ls []) := by
      intro z7 z8 ls hf hl
      rw [hk6] at hf
      refine lv_iload_n (pc := 104) hx hb dX9_spoils_104 rfl (lv_at hl 0 rfl) ?_
      refine r_if_ne (pc := 105) (tgt := 112) hx hb dX9_spoils_105 (by decide) hf (fun hf => ?_) (fun hf => ?_)
      · refine lv_iload_n (pc := 112) hx hb dX9_spoils_112 rfl (lv_at hl 2 rfl) ?_
        exact hQ _ _ _ dX9_spoils_113 hf
      · refine lv_iload_n (pc := 108) hx hb dX9_spoils_108 rfl (lv_at hl 1 rfl) ?_
        refine lv_goto (pc := 109) (tgt := 113) hx hb dX9_spoils_109 (by decide) ?_
        exact hQ _ _ _ dX9_spoils_113 hf
    have L21 : ∀ (n : Nat), ∀ (y2 : Int32) (y3 : Int32) (y4 : Int32) (ls : Array Slot), f_X9_spoils_L21 mo_people mo_shots mo_looks N k6 n y2 y3 y4 = some r → lv_has ls 7 [(0, .ref mo_A), (1, .int p1), (2, .int y2), (3, .int y3), (4, .int y4)] → W p l e (roR 1 25) s m args below meth c s.heap [] 0 0 Q (F0 m 21 ls []) := by
      intro n
      induction n with
      | zero =>
        intro y2 y3 y4 ls hf
        rw [f_X9_spoils_L21] at hf
        cases hf
      | succ n ih =>
        intro y2 y3 y4 ls hf hl
        rw [f_X9_spoils_L21] at hf
        refine lv_iload (pc := 21) hx hb dX9_spoils_21 (lv_at hl 4 rfl) ?_
        refine lv_aload_n (pc := 23) hx hb dX9_spoils_23 rfl (lv_at hl 0 rfl) ?_
        refine va_get (pc := 24) (D := D) (ci := 9) (v := .int mo_people) (C := RX9) (T := TX9) (N := 25) hx hb hts inG9 hown hK hP 0 rfl rfl 0 (by decide) (hts _ tw_711) (fun _ h9 => h9) rfl dX9_spoils_24 ?_
        refine r_ic_ge (pc := 27) (tgt := 104) hx hb dX9_spoils_27 (by decide) hf (fun hf => ?_) (fun hf => ?_)
        · exact K6 _ _ _ hf (lv_sub hl [1, 2, 3] rfl)
        · refine lv_iconst (pc := 30) (v := (0 : Int32)) hx hb dX9_spoils_30 (by decide) ?_
          refine lv_istore (pc := 31) (lv' := [(5, .int (0 : Int32)), (0, .ref mo_A), (1, .int p1), (2, .int y2), (3, .int y3), (4, .int y4)]) hx hb dX9_spoils_31 hl (by decide) rfl (fun ls hl => ?_)
          refine lv_iconst (pc := 33) (v := (0 : Int32)) hx hb dX9_spoils_33 (by decide) ?_
          refine lv_istore (pc := 34) (lv' := [(6, .int (0 : Int32)), (5, .int (0 : Int32)), (0, .ref mo_A), (1, .int p1), (2, .int y2), (3, .int y3), (4, .int y4)]) hx hb dX9_spoils_34 hl (by decide) rfl (fun ls hl => ?_)
          obtain ⟨k12, hk12, hf⟩ := lc1_e hf
          have K12 : ∀ (z13 : Int32) (ls : Array Slot), k12 z13 = some r → lv_has ls 7 [(0, .ref mo_A), (1, .int p1), (2, .int y2), (3, .int y3), (4, .int y4), (5, .int z13)] → W p l e (roR 1 25) s m args below meth c s.heap [] 0 0 Q (F0 m 72 ls []) := by
            intro z13 ls hf hl
            rw [hk12] at hf
            refine lv_iload (pc := 72) hx hb dX9_spoils_72 (lv_at hl 5 rfl) ?_
            refine lv_iload_n (pc := 74) hx hb dX9_spoils_74 rfl (lv_at hl 3 rfl) ?_
            obtain ⟨k17, hk17, hf⟩ := lc1_e hf
            have K17 : ∀ (x18 : Int32) (ls : Array Slot), k17 x18 = some r → lv_has ls 7 [(0, .ref mo_A), (1, .int p1), (3, .int y3), (4, .int y4), (5, .int z13)] → W p l e (roR 1 25) s m args below meth c s.heap [] 0 0 Q (F0 m 84 ls [.int x18]) := by
              intro x18 ls hf hl
              rw [hk17] at hf
              refine lv_istore_n (pc := 84) (lv' := [(2, .int x18), (0, .ref mo_A), (1, .int p1), (3, .int y3), (4, .int y4), (5, .int z13)]) hx hb dX9_spoils_84 rfl hl (by decide) rfl (fun ls hl => ?_)
              refine lv_iload (pc := 85) hx hb dX9_spoils_85 (lv_at hl 5 rfl) ?_
              refine lv_iload_n (pc := 87) hx hb dX9_spoils_87 rfl (lv_at hl 3 rfl) ?_
              obtain ⟨k19, hk19, hf⟩ := lc1_e hf
              have K19 : ∀ (x20 : Int32) (ls : Array Slot), k19 x20 = some r → lv_has ls 7 [(0, .ref mo_A), (1, .int p1), (2, .int x18), (4, .int y4)] → W p l e (roR 1 25) s m args below meth c s.heap [] 0 0 Q (F0 m 97 ls [.int x20]) := by
                intro x20 ls hf hl
                rw [hk19] at hf
                refine lv_istore_n (pc := 97) (lv' := [(3, .int x20), (0, .ref mo_A), (1, .int p1), (2, .int x18), (4, .int y4)]) hx hb dX9_spoils_97 rfl hl (by decide) rfl (fun ls hl => ?_)
                refine lv_iinc (pc := 98) (v := (y4 + (1 : Int32))) (lv' := [(4, .int (y4 + (1 : Int32))), (3, .int x20), (0, .ref mo_A), (1, .int p1), (2, .int x18)]) hx hb dX9_spoils_98 hl (k := 4) rfl (by rfl) (by decide) rfl (fun ls hl => ?_)
                refine lv_goto (pc := 101) (tgt := 21) hx hb dX9_spoils_101 (by decide) ?_
                exact ih _ _ _ _ hf (lv_sub hl [2, 3, 4, 1, 0] rfl)
              refine r_ic_le (pc := 88) (tgt := 96) hx hb dX9_spoils_88 (by decide) hf (fun hf => ?_) (fun hf => ?_)
              · refine lv_iload_n (pc := 96) hx hb dX9_spoils_96 rfl (lv_at hl 3 rfl) ?_
                exact K19 _ _ hf (lv_sub hl [1, 2, 0, 4] rfl)
              · refine lv_iload (pc := 91) hx hb dX9_spoils_91 (lv_at hl 5 rfl) ?_
                refine lv_goto (pc := 93) (tgt := 97) hx hb dX9_spoils_93 (by decide) ?_
                exact K19 _ _ hf (lv_sub hl [1, 2, 0, 4] rfl)
            refine r_ic_le (pc := 75) (tgt := 83) hx hb dX9_spoils_75 (by decide) hf (fun hf => ?_) (fun hf => ?_)
            · refine lv_iload_n (pc := 83) hx hb dX9_spoils_83 rfl (lv_at hl 2 rfl) ?_
              exact K17 _ _ hf (lv_sub hl [0, 1, 3, 4, 5] rfl)
            · refine lv_iload (pc := 78) hx hb dX9_spoils_78 (lv_at hl 4 rfl) ?_
              refine lv_goto (pc := 80) (tgt := 84) hx hb dX9_spoils_80 (by decide) ?_
              exact K17 _ _ hf (lv_sub hl [0, 1, 3, 4, 5] rfl)
          have L36 : ∀ (n : Nat), ∀ (y9 : Int32) (y10 : Int32) (ls : Array Slot), f_X9_spoils_L36 mo_shots mo_looks y4 k12 n y9 y10 = some r → lv_has ls 7 [(0, .ref mo_A), (1, .int p1), (2, .int y2), (3, .int y3), (4, .int y4), (5, .int y9), (6, .int y10)] → W p l e (roR 1 25) s m args below meth c s.heap [] 0 0 Q (F0 m 36 ls []) := by
            intro n
            induction n with
            | zero =>
              intro y9 y10 ls hf
              rw [f_X9_spoils_L36] at hf
              cases hf
            | succ n ih =>
              intro y9 y10 ls hf hl
              rw [f_X9_spoils_L36] at hf
              refine lv_iload (pc := 36) hx hb dX9_spoils_36 (lv_at hl 6 rfl) ?_
              refine lv_aload_n (pc := 38) hx hb dX9_spoils_38 rfl (lv_at hl 0 rfl) ?_
              refine va_get (pc := 39) (D := D) (ci := 9) (v := .int mo_shots) (C := RX9) (T := TX9) (N := 25) hx hb hts inG9 hown hK hP 0 rfl rfl 1 (by decide) (hts _ tw_712) (fun _ h9 => h9) rfl dX9_spoils_39 ?_
              refine r_ic_ge (pc := 42) (tgt := 72) hx hb dX9_spoils_42 (by decide) hf (fun hf => ?_) (fun hf => ?_)
              · exact K12 _ _ hf (lv_sub hl [0, 1, 2, 3, 4, 5] rfl)
              · refine lv_iload (pc := 45) hx hb dX9_spoils_45 (lv_at hl 5 rfl) ?_
                refine lv_aload_n (pc := 47) hx hb dX9_spoils_47 rfl (lv_at hl 0 rfl) ?_
                refine lv_iload (pc := 48) hx hb dX9_spoils_48 (lv_at hl 6 rfl) ?_
                refine lv_iload (pc := 50) hx hb dX9_spoils_50 (lv_at hl 4 rfl) ?_
                obtain ⟨v14, hv52, hf⟩ := bd_e hf
                refine ro_Vi (pc := 52) (As := [.int y10, .int y4]) (rest := [.int y9]) E (c_X9_isOpen l D cI cJ cZ cS mo_A mo_looks_A mo_period_A mo_shut_A mo_phase_A mo_quarters_A mo_tall_A mo_pairs_A mo_pad_A mo_cuts_A mo_at_A mo_first_A mo_kept_A mo_isKept_A mo_people mo_shots mo_looks mo_bride mo_hands mo_period mo_shut mo_phase mo_flash mo_quarters mo_tired mo_rows mo_columns mo_rise mo_tall mo_pairs mo_pad mo_padMany mo_cuts mo_at mo_first mo_kept mo_isKept mo_keptAt mo_isWriting y10 y4 v14 hv52) F_X9_isOpen rfl rfl tw_849 tw_851 tp_27 hP ⟨by decide, by decide⟩ rfl hl.1 (Nat.le_of_ble_eq_true rfl) ⟨by decide, by decide⟩ rfl dX9_spoils_52 ?_
                obtain ⟨k15, hk15, hf⟩ := lc1_e hf
                have K15 : ∀ (x16 : Int32) (ls : Array Slot), k15 x16 = some r → lv_has ls 7 [(0, .ref mo_A), (1, .int p1), (2, .int y2), (3, .int y3), (4, .int y4), (6, .int y10)] → W p l e (roR 1 25) s m args below meth c s.heap [] 0 0 Q (F0 m 63 ls [.int x16, .int y9]) := by
                  intro x16 ls hf hl
                  rw [hk15] at hf
                  refine lv_iadd (pc := 63) hx hb dX9_spoils_63 ?_
                  refine lv_istore (pc := 64) (lv' := [(5, .int (y9 + x16)), (0, .ref mo_A), (1, .int p1), (2, .int y2), (3, .int y3), (4, .int y4), (6, .int y10)]) hx hb dX9_spoils_64 hl (by decide) rfl (fun ls hl => ?_)
                  refine lv_iinc (pc := 66) (v := (y10 + (1 : Int32))) (lv' := [(6, .int (y10 + (1 : Int32))), (5, .int (y9 + x16)), (0, .ref mo_A), (1, .int p1), (2, .int y2), (3, .int y3), (4, .int y4)]) hx hb dX9_spoils_66 hl (k := 6) rfl (by rfl) (by decide) rfl (fun ls hl => ?_)
                  refine lv_goto (pc := 69) (tgt := 36) hx hb dX9_spoils_69 (by decide) ?_
                  exact ih _ _ _ hf (lv_sub hl [2, 3, 4, 5, 6, 1, 0] rfl)
                refine r_if_eq (pc := 55) (tgt := 62) hx hb dX9_spoils_55 (by decide) hf (fun hf => ?_) (fun hf => ?_)
                · refine lv_iconst (pc := 62) (v := (1 : Int32)) hx hb dX9_spoils_62 (by decide) ?_
                  exact K15 _ _ hf (lv_sub hl [0, 1, 2, 3, 4, 6] rfl)
                · refine lv_iconst (pc := 58) (v := (0 : Int32)) hx hb dX9_spoils_58 (by decide) ?_
                  refine lv_goto (pc := 59) (tgt := 63) hx hb dX9_spoils_59 (by decide) ?_
                  exact K15 _ _ hf (lv_sub hl [0, 1, 2, 3, 4, 6] rfl)
          exact L36 N _ _ _ hf (lv_sub hl [2, 3, 4, 5, 6, 1, 0] rfl)
    exact L21 N _ _ _ _ hf (lv_sub hl [3, 4, 2, 1, 0] rfl)
  · refine lv_bipush (pc := 10) (v := (-2 : Int32)) hx hb dX9_spoils_10 (by decide) ?_
    exact hQ _ _ _ dX9_spoils_12 hf
theorem F_X9_hands : CalF yX9_hands cX9_hands 3 (some .int) 1 := ⟨tw_875, tw_10, by decide +kernel⟩
set_option maxRecDepth 100000 in
set_option maxHeartbeats 4000000 in
theorem c_X9_hands (l : Launch) (D : va_G) (cI cJ cZ cS : ClassId) (mo_A mo_looks_A mo_period_A mo_shut_A mo_phase_A mo_quarters_A mo_tall_A mo_pairs_A mo_pad_A mo_cuts_A mo_at_A mo_first_A mo_kept_A mo_isKept_A : Nat) (mo_people : Int32) (mo_shots : Int32) (mo_looks : Nat → Int32) (mo_bride : Int32) (mo_hands : Int32) (mo_period : Nat → Int32) (mo_shut : Nat → Int32) (mo_phase : Nat → Int32) (mo_flash : Int32) (mo_quarters : Nat → Int32) (mo_tired : Int32) (mo_rows : Int32) (mo_columns : Int32) (mo_rise : Int32) (mo_tall : Nat → Int32) (mo_pairs : Nat → Int32) (mo_pad : Nat → Int32) (mo_padMany : Int32) (mo_cuts : Nat → Int32) (mo_at : Nat → Int32) (mo_first : Nat → Int32) (mo_kept : Nat → Int32) (mo_isKept : Nat → Int32) (mo_keptAt : Int32) (mo_isWriting : Int32) (p1 : Int32) (sz : Nat) (r : Int32) (r_mo_hands : Int32) (hf : f_X9_hands mo_people mo_hands p1 = some (r, r_mo_hands)) : RwC l D cI cJ cZ cS yX9_hands cX9_hands 3 (some .int) 1 25 (w_X9 cI cJ cZ cS mo_A mo_looks_A mo_period_A mo_shut_A mo_phase_A mo_quarters_A mo_tall_A mo_pairs_A mo_pad_A mo_cuts_A mo_at_A mo_first_A mo_kept_A mo_isKept_A mo_people mo_shots mo_looks mo_bride mo_hands mo_period mo_shut mo_phase mo_flash mo_quarters mo_tired mo_rows mo_columns mo_rise mo_tall mo_pairs mo_pad mo_padMany mo_cuts mo_at mo_first mo_kept mo_isKept mo_keptAt mo_isWriting) sz [.ref mo_A, .int p1] (some (.int r)) (w_X9 cI cJ cZ cS mo_A mo_looks_A mo_period_A mo_shut_A mo_phase_A mo_quarters_A mo_tall_A mo_pairs_A mo_pad_A mo_cuts_A mo_at_A mo_first_A mo_kept_A mo_isKept_A mo_people mo_shots mo_looks mo_bride r_mo_hands mo_period mo_shut mo_phase mo_flash mo_quarters mo_tired mo_rows mo_columns mo_rise mo_tall mo_pairs mo_pad mo_padMany mo_cuts mo_at mo_first mo_kept mo_isKept mo_keptAt mo_isWriting) := by
  refine rw_in_i (own := RX9) (by decide +kernel) rfl (Nat.le_of_ble_eq_true rfl) ?_
  intro p e s m args below meth c ls Q A E hA hQ hP hD hS hl
  obtain ⟨hx, hb, hml, hown, hts, hK, hN, hAO⟩ := id E
  have hl : lv_has ls 3 [(0, .ref mo_A), (1, .int p1)] := hl
  unfold f_X9_hands at hf
  obtain ⟨H, hH⟩ : ∃ H, H = s.heap := ⟨_, rfl⟩
  obtain ⟨locs, hlocs⟩ : ∃ L : List Loc, L = [] := ⟨_, rfl⟩
  rw [show W p l e (roR 1 25) s m args below meth c s.heap [] 0 0 Q (F0 m 0 ls []) = W p l e (roR 1 25) s m args below meth c H locs 0 0 Q (F0 m 0 ls []) by rw [hH, hlocs]]
  replace hS : va_S A s.heap H locs := by rw [hH, hlocs]; exact hS
  replace hP : va_P D vwCl (w_X9 cI cJ cZ cS mo_A mo_looks_A mo_period_A mo_shut_A mo_phase_A mo_quarters_A mo_tall_A mo_pairs_A mo_pad_A mo_cuts_A mo_at_A mo_first_A mo_kept_A mo_isKept_A mo_people mo_shots mo_looks mo_bride mo_hands mo_period mo_shut mo_phase mo_flash mo_quarters mo_tired mo_rows mo_columns mo_rise mo_tall mo_pairs mo_pad mo_padMany mo_cuts mo_at mo_first mo_kept mo_isKept mo_keptAt mo_isWriting) H := by rw [hH]; exact hP
  clear hH hlocs
  refine lv_iload_n (pc := 0) hx hb dX9_hands_0 rfl (lv_at hl 1 rfl) ?_
  refine lv_i2l (pc := 1) (v := (Int32.toInt64 p1)) hx hb dX9_hands_1 rfl ?_
  refine lv_lconst (pc := 2) (v := (0 : Int64)) hx hb dX9_hands_2 (by decide) ?_
  refine lv_iconst (pc := 3) (v := (1 : Int32)) hx hb dX9_hands_3 (by decide) ?_
  refine lv_aload_n (pc := 4) hx hb dX9_hands_4 rfl (lv_at hl 0 rfl) ?_
  refine va_get (pc := 5) (D := D) (ci := 9) (v := .int mo_people) (C := RX9) (T := TX9) (N := 25) hx hb hts inG9 hown hK hP 0 rfl rfl 0 (by decide) (hts _ tw_711) (fun _ h9 => h9) rfl dX9_hands_5 ?_
  refine lv_iconst (pc := 8) (v := (1 : Int32)) hx hb dX9_hands_8 (by decide) ?_
  refine lv_isub (pc := 9) hx hb dX9_hands_9 ?_
  refine lv_ishl (pc := 10) hx hb dX9_hands_10 ?_
  refine lv_iconst (pc := 11) (v := (1 : Int32)) hx hb dX9_hands_11 (by decide) ?_
  refine lv_isub (pc := 12) hx hb dX9_hands_12 ?_
  refine lv_i2l (pc := 13) (v := (Int32.toInt64 (((1 : Int32) <<< ((mo_people - (1 : Int32)) &&& 31)) - (1 : Int32)))) hx hb dX9_hands_13 rfl ?_
  obtain ⟨v1, hv14, hf⟩ := bd_e hf
  refine ro_Si (pc := 14) (As := [.long (Int32.toInt64 p1), .long (0 : Int64), .long (Int32.toInt64 (((1 : Int32) <<< ((mo_people - (1 : Int32)) &&& 31)) - (1 : Int32)))]) (rest := []) E (c_X9_in l D cI cJ cZ cS (Int32.toInt64 p1) (0 : Int64) (Int32.toInt64 (((1 : Int32) <<< ((mo_people - (1 : Int32)) &&& 31)) - (1 : Int32))) v1 hv14) F_X9_in tw_793 tw_794  va_P_nil ⟨by decide, by decide⟩ rfl hl.1 (Nat.le_of_ble_eq_true rfl) ⟨by decide, by decide⟩ rfl dX9_hands_14 ?_
  refine r_if_ne (pc := 17) (tgt := 23) hx hb dX9_hands_17 (by decide) hf (fun hf => ?_) (fun hf => ?_)
  · refine lv_aload_n (pc := 23) hx hb dX9_hands_23 rfl (lv_at hl 0 rfl) ?_
    refine va_get (pc := 24) (D := D) (ci := 9) (v := .int mo_hands) (C := RX9) (T := TX9) (N := 25) hx hb hts inG9 hown hK hP 0 rfl rfl 4 (by decide) (hts _ tw_715) (fun _ h9 => h9) rfl dX9_hands_24 ?_
    refine lv_istore_n (pc := 27) (lv' := [(2, .int mo_hands), (0, .ref mo_A), (1, .int p1)]) hx hb dX9_hands_27 rfl hl (by decide) rfl (fun ls hl => ?_)
    refine lv_aload_n (pc := 28) hx hb dX9_hands_28 rfl (lv_at hl 1 rfl) ?_
    refine lv_iload_n (pc := 29) hx hb dX9_hands_29 rfl (lv_at hl 2 rfl) ?_
    refine va_put (pc := 30) (D := D) (ci := 9) (v := .int p1) (ty := .int) (C := RX9) (T := TX9) (N := 25) hx hb hts inG9 tyX9 tyX9_ok nmX9 hown hK hP hD hS 0 rfl rfl 4 (by decide) (hts _ tw_715) (fun _ h9 => h9) rfl (by decide +kernel) rfl rfl (Nat.le_of_ble_eq_true rfl) dX9_hands_30 (fun H locs hP hD hS => ?_)
    have hP : va_P D vwCl (w_X9 cI cJ cZ cS mo_A mo_looks_A mo_period_A mo_shut_A mo_phase_A mo_quarters_A mo_tall_A mo_pairs_A mo_pad_A mo_cuts_A mo_at_A mo_first_A mo_kept_A mo_isKept_A mo_people mo_shots mo_looks mo_bride p1 mo_period mo_shut mo_phase mo_flash mo_quarters mo_tired mo_rows mo_columns mo_rise mo_tall mo_pairs mo_pad mo_padMany mo_cuts mo_at mo_first mo_kept mo_isKept mo_keptAt mo_isWriting) H := hP
    have hD : va_D A (w_X9 cI cJ cZ cS mo_A mo_looks_A mo_period_A mo_shut_A mo_phase_A mo_quarters_A mo_tall_A mo_pairs_A mo_pad_A mo_cuts_A mo_at_A mo_first_A mo_kept_A mo_isKept_A mo_people mo_shots mo_looks mo_bride p1 mo_period mo_shut mo_phase mo_flash mo_quarters mo_tired mo_rows mo_columns mo_rise mo_tall mo_pairs mo_pad mo_padMany mo_cuts mo_at mo_first mo_kept mo_isKept mo_keptAt mo_isWriting) := hD
    refine lv_iload_n (pc := 33) hx hb dX9_hands_33 rfl (lv_at hl 0 rfl) ?_
    cases hf
    exact hQ _ _ _ _ _ dX9_hands_34 rfl hP hD hS
  · refine lv_bipush (pc := 20) (v := (-2 : Int32)) hx hb dX9_hands_20 (by decide) ?_
    cases hf
    exact hQ _ _ _ _ _ dX9_hands_22 rfl hP hD hS
theorem F_X9_cutsFrom : CalF yX9_cutsFrom cX9_cutsFrom 7 (some .int) 2 := ⟨tw_887, tw_10, by decide +kernel⟩
set_option maxRecDepth 100000 in
set_option maxHeartbeats 4000000 in
theorem c_X9_cutsFrom (l : Launch) (D : va_G) (cI cJ cZ cS : ClassId) (N : Nat) (mo_A mo_looks_A mo_period_A mo_shut_A mo_phase_A mo_quarters_A mo_tall_A mo_pairs_A mo_pad_A mo_cuts_A mo_at_A mo_first_A mo_kept_A mo_isKept_A : Nat) (mo_people : Int32) (mo_shots : Int32) (mo_looks : Nat → Int32) (mo_bride : Int32) (mo_hands : Int32) (mo_period : Nat → Int32) (mo_shut : Nat → Int32) (mo_phase : Nat → Int32) (mo_flash : Int32) (mo_quarters : Nat → Int32) (mo_tired : Int32) (mo_rows : Int32) (mo_columns : Int32) (mo_rise : Int32) (mo_tall : Nat → Int32) (mo_pairs : Nat → Int32) (mo_pad : Nat → Int32) (mo_padMany : Int32) (mo_cuts : Nat → Int32) (mo_at : Nat → Int32) (mo_first : Nat → Int32) (mo_kept : Nat → Int32) (mo_isKept : Nat → Int32) (mo_keptAt : Int32) (mo_isWriting : Int32) (p1 : Int32) (p2 : Int32) (r : Int32) (hf : f_X9_cutsFrom N mo_people mo_shots mo_looks mo_hands mo_cuts p1 p2 = some r) : RoC l D cI cJ cZ cS yX9_cutsFrom cX9_cutsFrom 7 (some .int) 1 22 (w_X9 cI cJ cZ cS mo_A mo_looks_A mo_period_A mo_shut_A mo_phase_A mo_quarters_A mo_tall_A mo_pairs_A mo_pad_A mo_cuts_A mo_at_A mo_first_A mo_kept_A mo_isKept_A mo_people mo_shots mo_looks mo_bride mo_hands mo_period mo_shut mo_phase mo_flash mo_quarters mo_tired mo_rows mo_columns mo_rise mo_tall mo_pairs mo_pad mo_padMany mo_cuts mo_at mo_first mo_kept mo_isKept mo_keptAt mo_isWriting) [.ref mo_A, .int p1, .int p2] (some (.int r)) := by
  refine ro_in_i (own := RX9) (by decide +kernel) rfl (Nat.le_of_ble_eq_true rfl) ?_
  intro p e s m args below meth c ls Q E hQ hP hl
  obtain ⟨hx, hb, hml, hown, hts, hK, hN, hAO⟩ := id E
  have hl : lv_has ls 7 [(0, .ref mo_A), (1, .int p1), (2, .int p2)] := hl
  unfold f_X9_cutsFrom at hf
  refine lv_aload_n (pc := 0) hx hb dX9_cutsFrom_0 rfl (lv_at hl 0 rfl) ?_
  refine lv_iload_n (pc := 1) hx hb dX9_cutsFrom_1 rfl (lv_at hl 2 rfl) ?_
  refine lv_iload_n (pc := 2) hx hb dX9_cutsFrom_2 rfl (lv_at hl 1 rfl) ?_
  obtain ⟨v1, hv3, hf⟩ := bd_e hf
  refine ro_Vi (pc := 3) (As := [.int p2, .int p1]) (rest := []) E (c_X9_isOpen l D cI cJ cZ cS mo_A mo_looks_A mo_period_A mo_shut_A mo_phase_A mo_quarters_A mo_tall_A mo_pairs_A mo_pad_A mo_cuts_A mo_at_A mo_first_A mo_kept_A mo_isKept_A mo_people mo_shots mo_looks mo_bride mo_hands mo_period mo_shut mo_phase mo_flash mo_quarters mo_tired mo_rows mo_columns mo_rise mo_tall mo_pairs mo_pad mo_padMany mo_cuts mo_at mo_first mo_kept mo_isKept mo_keptAt mo_isWriting p2 p1 v1 hv3) F_X9_isOpen rfl rfl tw_849 tw_851 tp_27 hP ⟨by decide, by decide⟩ rfl hl.1 (Nat.le_of_ble_eq_true rfl) ⟨by decide, by decide⟩ rfl dX9_cutsFrom_3 ?_
  refine r_if_ne (pc := 6) (tgt := 13) hx hb dX9_cutsFrom_6 (by decide) hf (fun hf => ?_) (fun hf => ?_)
  · refine lv_iload_n (pc := 13) hx hb dX9_cutsFrom_13 rfl (lv_at hl 1 rfl) ?_
    refine lv_aload_n (pc := 14) hx hb dX9_cutsFrom_14 rfl (lv_at hl 0 rfl) ?_
    refine va_get (pc := 15) (D := D) (ci := 9) (v := .int mo_people) (C := RX9) (T := TX9) (N := 25) hx hb hts inG9 hown hK hP 0 rfl rfl 0 (by decide) (hts _ tw_711) (fun _ h9 => h9) rfl dX9_cutsFrom_15 ?_
    refine lv_iconst (pc := 18) (v := (1 : Int32)) hx hb dX9_cutsFrom_18 (by decide) ?_
    refine lv_isub (pc := 19) hx hb dX9_cutsFrom_19 ?_
    refine r_ic_ne (pc := 20) (tgt := 25) hx hb dX9_cutsFrom_20 (by decide) hf (fun hf => ?_) (fun hf => ?_)
    · refine lv_sipush (pc := 25) (v := (1000 : Int32)) hx hb dX9_cutsFrom_25 (by decide) ?_
      refine lv_istore_n (pc := 28) (lv' := [(3, .int (1000 : Int32)), (0, .ref mo_A), (1, .int p1), (2, .int p2)]) hx hb dX9_cutsFrom_28 rfl hl (by decide) rfl (fun ls hl => ?_)
      refine lv_iconst (pc := 29) (v := (0 : Int32)) hx hb dX9_cutsFrom_29 (by decide) ?_
      refine lv_istore (pc := 30) (lv' := [(4, .int (0 : Int32)), (3, .int (1000 : Int32)), (0, .ref mo_A), (1, .int p1), (2, .int p2)]) hx hb dX9_cutsFrom_30 hl (by decide) rfl (fun ls hl => ?_)
      obtain ⟨k5, hk5, hf⟩ := lc1_e hf
      have K5 : ∀ (z6 : Int32) (ls : Array Slot), k5 z6 = some r → lv_has ls 7 [(3, .int z6)] → W p l e (roR 1 22) s m args below meth c s.heap [] 0 0 Q (F0 m 117 ls []) := by
        intro z6 ls hf hl
        rw [hk5] at hf
        refine lv_iload_n (pc := 117) hx hb dX9_cutsFrom_117 rfl (lv_at hl 0 rfl) ?_
        exact hQ _ _ _ dX9_cutsFrom_118 hf
      have L32 : ∀ (n : Nat), ∀ (y2 : Int32) (y3 : Int32) (ls : Array Slot), f_X9_cutsFrom_L32 mo_shots mo_hands mo_cuts p1 p2 k5 n y2 y3 = some r → lv_has ls 7 [(0, .ref mo_A), (1, .int p1), (2, .int p2), (3, .int y2), (4, .int y3)] → W p l e (roR 1 22) s m args below meth c s.heap [] 0 0 Q (F0 m 32 ls []) := by
        intro n
        induction n with
        | zero =>
          intro y2 y3 ls hf
          rw [f_X9_cutsFrom_L32] at hf
          cases hf
        | succ n ih =>
          intro y2 y3 ls hf hl
          rw [f_X9_cutsFrom_L32] at hf
          refine lv_iload (pc := 32) hx hb dX9_cutsFrom_32 (lv_at hl 4 rfl) ?_
          refine lv_aload_n (pc := 34) hx hb dX9_cutsFrom_34 rfl (lv_at hl 0 rfl) ?_
          refine va_get (pc := 35) (D := D) (ci := 9) (v := .int mo_shots) (C := RX9) (T := TX9) (N := 25) hx hb hts inG9 hown hK hP 0 rfl rfl 1 (by decide) (hts _ tw_712) (fun _ h9 => h9) rfl dX9_cutsFrom_35 ?_
          refine r_ic_ge (pc := 38) (tgt := 117) hx hb dX9_cutsFrom_38 (by decide) hf (fun hf => ?_) (fun hf => ?_)
          · exact K5 _ _ hf (lv_sub hl [3] rfl)
          · refine lv_iload (pc := 41) hx hb dX9_cutsFrom_41 (lv_at hl 4 rfl) ?_
            refine lv_iload_n (pc := 43) hx hb dX9_cutsFrom_43 rfl (lv_at hl 2 rfl) ?_
            obtain ⟨k8, hk8, hf⟩ := lc1_e hf
            have K8 : ∀ (x9 : Int32) (ls : Array Slot), k8 x9 = some r → lv_has ls 7 [(0, .ref mo_A), (1, .int p1), (2, .int p2), (3, .int y2), (4, .int y3)] → W p l e (roR 1 22) s m args below meth c s.heap [] 0 0 Q (F0 m 63 ls [.int x9]) := by
              intro x9 ls hf hl
              rw [hk8] at hf
              refine lv_istore (pc := 63) (lv' := [(5, .int x9), (0, .ref mo_A), (1, .int p1), (2, .int p2), (3, .int y2), (4, .int y3)]) hx hb dX9_cutsFrom_63 hl (by decide) rfl (fun ls hl => ?_)
              refine lv_aload_n (pc := 65) hx hb dX9_cutsFrom_65 rfl (lv_at hl 1 rfl) ?_
              refine va_get (pc := 66) (D := D) (ci := 9) (v := .ref mo_cuts_A) (C := RX9) (T := TX9) (N := 25) hx hb hts inG9 hown hK hP 0 rfl rfl 18 (by decide) (hts _ tw_729) (fun _ h9 => h9) rfl dX9_cutsFrom_66 ?_
              refine lv_bipush (pc := 69) (v := (10 : Int32)) hx hb dX9_cutsFrom_69 (by decide) ?_
              refine lv_iload_n (pc := 71) hx hb dX9_cutsFrom_71 rfl (lv_at hl 2 rfl) ?_
              refine lv_iconst (pc := 72) (v := (1 : Int32)) hx hb dX9_cutsFrom_72 (by decide) ?_
              refine lv_iadd (pc := 73) hx hb dX9_cutsFrom_73 ?_
              refine lv_imul (pc := 74) hx hb dX9_cutsFrom_74 ?_
              refine lv_iload (pc := 75) hx hb dX9_cutsFrom_75 (lv_at hl 5 rfl) ?_
              refine lv_iadd (pc := 77) hx hb dX9_cutsFrom_77 ?_
              refine r_iald (pc := 78) hx hb hK hP 9 0 rfl rfl hf dX9_cutsFrom_78 (fun v10 hf => ?_)
              refine lv_iload (pc := 79) hx hb dX9_cutsFrom_79 (lv_at hl 5 rfl) ?_
              refine lv_iload_n (pc := 81) hx hb dX9_cutsFrom_81 rfl (lv_at hl 3 rfl) ?_
              obtain ⟨k11, hk11, hf⟩ := lc1_e hf
              have K11 : ∀ (x12 : Int32) (ls : Array Slot), k11 x12 = some r → lv_has ls 7 [(0, .ref mo_A), (1, .int p1), (2, .int p2), (3, .int y2), (4, .int y3), (5, .int x9)] → W p l e (roR 1 22) s m args below meth c s.heap [] 0 0 Q (F0 m 90 ls [.int x12, .int v10]) := by
                intro x12 ls hf hl
                rw [hk11] at hf
                refine lv_iadd (pc := 90) hx hb dX9_cutsFrom_90 ?_
                refine lv_istore (pc := 91) (lv' := [(6, .int (v10 + x12)), (0, .ref mo_A), (1, .int p1), (2, .int p2), (3, .int y2), (4, .int y3), (5, .int x9)]) hx hb dX9_cutsFrom_91 hl (by decide) rfl (fun ls hl => ?_)
                refine lv_iload (pc := 93) hx hb dX9_cutsFrom_93 (lv_at hl 6 rfl) ?_
                obtain ⟨k14, hk14, hf⟩ := lc1_e hf
                have K14 : ∀ (x15 : Int32) (ls : Array Slot), k14 x15 = some r → lv_has ls 7 [(0, .ref mo_A), (1, .int p1), (2, .int p2), (4, .int y3)] → W p l e (roR 1 22) s m args below meth c s.heap [] 0 0 Q (F0 m 110 ls [.int x15]) := by
                  intro x15 ls hf hl
                  rw [hk14] at hf
                  refine lv_istore_n (pc := 110) (lv' := [(3, .int x15), (0, .ref mo_A), (1, .int p1), (2, .int p2), (4, .int y3)]) hx hb dX9_cutsFrom_110 rfl hl (by decide) rfl (fun ls hl => ?_)
                  refine lv_iinc (pc := 111) (v := (y3 + (1 : Int32))) (lv' := [(4, .int (y3 + (1 : Int32))), (3, .int x15), (0, .ref mo_A), (1, .int p1), (2, .int p2)]) hx hb dX9_cutsFrom_111 hl (k := 4) rfl (by rfl) (by decide) rfl (fun ls hl => ?_)
                  refine lv_goto (pc := 114) (tgt := 32) hx hb dX9_cutsFrom_114 (by decide) ?_
                  exact ih _ _ _ hf (lv_sub hl [2, 3, 4, 1, 0] rfl)
                obtain ⟨k13, hk13, hf⟩ := lc0_e hf
                have K13 : ∀  (ls : Array Slot), k13 = some r → lv_has ls 7 [(0, .ref mo_A), (1, .int p1), (2, .int p2), (3, .int y2), (4, .int y3)] → W p l e (roR 1 22) s m args below meth c s.heap [] 0 0 Q (F0 m 109 ls []) := by
                  intro  ls hf hl
                  rw [hk13] at hf
                  refine lv_iload_n (pc := 109) hx hb dX9_cutsFrom_109 rfl (lv_at hl 3 rfl) ?_
                  exact K14 _ _ hf (lv_sub hl [0, 1, 2, 4] rfl)
                refine r_if_eq (pc := 95) (tgt := 109) hx hb dX9_cutsFrom_95 (by decide) hf (fun hf => ?_) (fun hf => ?_)
                · exact K13  _ hf (lv_sub hl [1, 2, 3, 4, 5] rfl)
                · refine lv_iload (pc := 98) hx hb dX9_cutsFrom_98 (lv_at hl 0 rfl) ?_
                  refine lv_iload_n (pc := 100) hx hb dX9_cutsFrom_100 rfl (lv_at hl 4 rfl) ?_
                  refine r_ic_ge (pc := 101) (tgt := 109) hx hb dX9_cutsFrom_101 (by decide) hf (fun hf => ?_) (fun hf => ?_)
                  · exact K13  _ hf (lv_sub hl [1, 2, 3, 4, 5] rfl)
                  · refine lv_iload (pc := 104) hx hb dX9_cutsFrom_104 (lv_at hl 0 rfl) ?_
                    refine lv_goto (pc := 106) (tgt := 110) hx hb dX9_cutsFrom_106 (by decide) ?_
                    exact K14 _ _ hf (lv_sub hl [1, 2, 3, 5] rfl)
              refine r_ic_ne (pc := 82) (tgt := 89) hx hb dX9_cutsFrom_82 (by decide) hf (fun hf => ?_) (fun hf => ?_)
              · refine lv_iconst (pc := 89) (v := (1 : Int32)) hx hb dX9_cutsFrom_89 (by decide) ?_
                exact K11 _ _ hf (lv_sub hl [1, 2, 3, 4, 5, 0] rfl)
              · refine lv_iconst (pc := 85) (v := (0 : Int32)) hx hb dX9_cutsFrom_85 (by decide) ?_
                refine lv_goto (pc := 86) (tgt := 90) hx hb dX9_cutsFrom_86 (by decide) ?_
                exact K11 _ _ hf (lv_sub hl [1, 2, 3, 4, 5, 0] rfl)
            obtain ⟨k7, hk7, hf⟩ := lc0_e hf
            have K7 : ∀  (ls : Array Slot), k7 = some r → lv_has ls 7 [(0, .ref mo_A), (1, .int p1), (2, .int p2), (3, .int y2), (4, .int y3)] → W p l e (roR 1 22) s m args below meth c s.heap [] 0 0 Q (F0 m 58 ls []) := by
              intro  ls hf hl
              rw [hk7] at hf
              refine lv_iconst (pc := 58) (v := (1 : Int32)) hx hb dX9_cutsFrom_58 (by decide) ?_
              refine lv_goto (pc := 59) (tgt := 63) hx hb dX9_cutsFrom_59 (by decide) ?_
              exact K8 _ _ hf hl
            refine r_ic_eq (pc := 44) (tgt := 58) hx hb dX9_cutsFrom_44 (by decide) hf (fun hf => ?_) (fun hf => ?_)
            · exact K7  _ hf hl
            · refine lv_aload_n (pc := 47) hx hb dX9_cutsFrom_47 rfl (lv_at hl 0 rfl) ?_
              refine va_get (pc := 48) (D := D) (ci := 9) (v := .int mo_hands) (C := RX9) (T := TX9) (N := 25) hx hb hts inG9 hown hK hP 0 rfl rfl 4 (by decide) (hts _ tw_715) (fun _ h9 => h9) rfl dX9_cutsFrom_48 ?_
              refine lv_iload_n (pc := 51) hx hb dX9_cutsFrom_51 rfl (lv_at hl 1 rfl) ?_
              refine lv_ishr (pc := 52) hx hb dX9_cutsFrom_52 ?_
              refine lv_iconst (pc := 53) (v := (1 : Int32)) hx hb dX9_cutsFrom_53 (by decide) ?_
              refine lv_iand (pc := 54) hx hb dX9_cutsFrom_54 ?_
              refine r_if_ne (pc := 55) (tgt := 62) hx hb dX9_cutsFrom_55 (by decide) hf (fun hf => ?_) (fun hf => ?_)
              · refine lv_iconst (pc := 62) (v := (0 : Int32)) hx hb dX9_cutsFrom_62 (by decide) ?_
                exact K8 _ _ hf hl
              · exact K7  _ hf hl
      exact L32 N _ _ _ hf (lv_sub hl [2, 3, 4, 1, 0] rfl)
    · refine lv_iconst (pc := 23) (v := (0 : Int32)) hx hb dX9_cutsFrom_23 (by decide) ?_
      exact hQ _ _ _ dX9_cutsFrom_24 hf
  · refine lv_sipush (pc := 9) (v := (1000 : Int32)) hx hb dX9_cutsFrom_9 (by decide) ?_
    exact hQ _ _ _ dX9_cutsFrom_12 hf
