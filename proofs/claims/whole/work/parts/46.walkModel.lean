theorem F_X9_isHidden : CalF yX9_isHidden cX9_isHidden 3 (some .boolean) 2 := ⟨tw_999, tw_10, by decide +kernel⟩
set_option maxRecDepth 100000 in
set_option maxHeartbeats 4000000 in
theorem c_X9_isHidden (l : Launch) (D : va_G) (cI cJ cZ cS : ClassId) (mo_A mo_looks_A mo_period_A mo_shut_A mo_phase_A mo_quarters_A mo_tall_A mo_pairs_A mo_pad_A mo_cuts_A mo_at_A mo_first_A mo_kept_A mo_isKept_A : Nat) (mo_people : Int32) (mo_shots : Int32) (mo_looks : Nat → Int32) (mo_bride : Int32) (mo_hands : Int32) (mo_period : Nat → Int32) (mo_shut : Nat → Int32) (mo_phase : Nat → Int32) (mo_flash : Int32) (mo_quarters : Nat → Int32) (mo_tired : Int32) (mo_rows : Int32) (mo_columns : Int32) (mo_rise : Int32) (mo_tall : Nat → Int32) (mo_pairs : Nat → Int32) (mo_pad : Nat → Int32) (mo_padMany : Int32) (mo_cuts : Nat → Int32) (mo_at : Nat → Int32) (mo_first : Nat → Int32) (mo_kept : Nat → Int32) (mo_isKept : Nat → Int32) (mo_keptAt : Int32) (mo_isWriting : Int32) (p1 : Int32) (p2 : Int32) (r : Int32) (hf : f_X9_isHidden mo_columns mo_rise mo_tall mo_at p1 p2 = some r) : RoC l D cI cJ cZ cS yX9_isHidden cX9_isHidden 3 (some .boolean) 1 21 (w_X9 cI cJ cZ cS mo_A mo_looks_A mo_period_A mo_shut_A mo_phase_A mo_quarters_A mo_tall_A mo_pairs_A mo_pad_A mo_cuts_A mo_at_A mo_first_A mo_kept_A mo_isKept_A mo_people mo_shots mo_looks mo_bride mo_hands mo_period mo_shut mo_phase mo_flash mo_quarters mo_tired mo_rows mo_columns mo_rise mo_tall mo_pairs mo_pad mo_padMany mo_cuts mo_at mo_first mo_kept mo_isKept mo_keptAt mo_isWriting) [.ref mo_A, .int p1, .int p2] (some (.int r)) := by
  refine ro_in_z (own := RX9) (by decide +kernel) rfl (Nat.le_of_ble_eq_true rfl) ?_
  intro p e s m args below meth c ls Q E hQ hP hl
  obtain ⟨hx, hb, hml, hown, hts, hK, hN, hAO⟩ := id E
  have hl : lv_has ls 3 [(0, .ref mo_A), (1, .int p1), (2, .int p2)] := hl
  unfold f_X9_isHidden at hf
  refine lv_aload_n (pc := 0) hx hb dX9_isHidden_0 rfl (lv_at hl 0 rfl) ?_
  refine va_get (pc := 1) (D := D) (ci := 9) (v := .ref mo_at_A) (C := RX9) (T := TX9) (N := 25) hx hb hts inG9 hown hK hP 0 rfl rfl 19 (by decide) (hts _ tw_730) (fun _ h9 => h9) rfl dX9_isHidden_1 ?_
  refine lv_iload_n (pc := 4) hx hb dX9_isHidden_4 rfl (lv_at hl 1 rfl) ?_
  refine r_iald (pc := 5) hx hb hK hP 10 0 rfl rfl hf dX9_isHidden_5 (fun v1 hf => ?_)
  refine lv_aload_n (pc := 6) hx hb dX9_isHidden_6 rfl (lv_at hl 0 rfl) ?_
  refine va_get (pc := 7) (D := D) (ci := 9) (v := .int mo_columns) (C := RX9) (T := TX9) (N := 25) hx hb hts inG9 hown hK hP 0 rfl rfl 12 (by decide) (hts _ tw_723) (fun _ h9 => h9) rfl dX9_isHidden_7 ?_
  refine r_irem (pc := 10) hx hb hf dX9_isHidden_10 (fun v2 hf => ?_)
  refine lv_aload_n (pc := 11) hx hb dX9_isHidden_11 rfl (lv_at hl 0 rfl) ?_
  refine va_get (pc := 12) (D := D) (ci := 9) (v := .ref mo_at_A) (C := RX9) (T := TX9) (N := 25) hx hb hts inG9 hown hK hP 0 rfl rfl 19 (by decide) (hts _ tw_730) (fun _ h9 => h9) rfl dX9_isHidden_12 ?_
  refine lv_iload_n (pc := 15) hx hb dX9_isHidden_15 rfl (lv_at hl 2 rfl) ?_
  refine r_iald (pc := 16) hx hb hK hP 10 0 rfl rfl hf dX9_isHidden_16 (fun v3 hf => ?_)
  refine lv_aload_n (pc := 17) hx hb dX9_isHidden_17 rfl (lv_at hl 0 rfl) ?_
  refine va_get (pc := 18) (D := D) (ci := 9) (v := .int mo_columns) (C := RX9) (T := TX9) (N := 25) hx hb hts inG9 hown hK hP 0 rfl rfl 12 (by decide) (hts _ tw_723) (fun _ h9 => h9) rfl dX9_isHidden_18 ?_
  refine r_irem (pc := 21) hx hb hf dX9_isHidden_21 (fun v4 hf => ?_)
  refine r_ic_ne (pc := 22) (tgt := 67) hx hb dX9_isHidden_22 (by decide) hf (fun hf => ?_) (fun hf => ?_)
  · refine lv_iconst (pc := 67) (v := (0 : Int32)) hx hb dX9_isHidden_67 (by decide) ?_
    exact hQ _ _ _ dX9_isHidden_68 rfl hf
  · refine lv_aload_n (pc := 25) hx hb dX9_isHidden_25 rfl (lv_at hl 0 rfl) ?_
    refine va_get (pc := 26) (D := D) (ci := 9) (v := .ref mo_at_A) (C := RX9) (T := TX9) (N := 25) hx hb hts inG9 hown hK hP 0 rfl rfl 19 (by decide) (hts _ tw_730) (fun _ h9 => h9) rfl dX9_isHidden_26 ?_
    refine lv_iload_n (pc := 29) hx hb dX9_isHidden_29 rfl (lv_at hl 2 rfl) ?_
    refine r_iald (pc := 30) hx hb hK hP 10 0 rfl rfl hf dX9_isHidden_30 (fun v5 hf => ?_)
    refine lv_aload_n (pc := 31) hx hb dX9_isHidden_31 rfl (lv_at hl 0 rfl) ?_
    refine va_get (pc := 32) (D := D) (ci := 9) (v := .int mo_columns) (C := RX9) (T := TX9) (N := 25) hx hb hts inG9 hown hK hP 0 rfl rfl 12 (by decide) (hts _ tw_723) (fun _ h9 => h9) rfl dX9_isHidden_32 ?_
    refine r_idiv (pc := 35) hx hb hf dX9_isHidden_35 (fun v6 hf => ?_)
    refine lv_aload_n (pc := 36) hx hb dX9_isHidden_36 rfl (lv_at hl 0 rfl) ?_
    refine va_get (pc := 37) (D := D) (ci := 9) (v := .ref mo_at_A) (C := RX9) (T := TX9) (N := 25) hx hb hts inG9 hown hK hP 0 rfl rfl 19 (by decide) (hts _ tw_730) (fun _ h9 => h9) rfl dX9_isHidden_37 ?_
    refine lv_iload_n (pc := 40) hx hb dX9_isHidden_40 rfl (lv_at hl 1 rfl) ?_
    refine r_iald (pc := 41) hx hb hK hP 10 0 rfl rfl hf dX9_isHidden_41 (fun v7 hf => ?_)
    refine lv_aload_n (pc := 42) hx hb dX9_isHidden_42 rfl (lv_at hl 0 rfl) ?_
    refine va_get (pc := 43) (D := D) (ci := 9) (v := .int mo_columns) (C := RX9) (T := TX9) (N := 25) hx hb hts inG9 hown hK hP 0 rfl rfl 12 (by decide) (hts _ tw_723) (fun _ h9 => h9) rfl dX9_isHidden_43 ?_
    refine r_idiv (pc := 46) hx hb hf dX9_isHidden_46 (fun v8 hf => ?_)
    refine r_ic_ge (pc := 47) (tgt := 67) hx hb dX9_isHidden_47 (by decide) hf (fun hf => ?_) (fun hf => ?_)
    · refine lv_iconst (pc := 67) (v := (0 : Int32)) hx hb dX9_isHidden_67 (by decide) ?_
      exact hQ _ _ _ dX9_isHidden_68 rfl hf
    · refine lv_aload_n (pc := 50) hx hb dX9_isHidden_50 rfl (lv_at hl 0 rfl) ?_
      refine lv_iload_n (pc := 51) hx hb dX9_isHidden_51 rfl (lv_at hl 1 rfl) ?_
      obtain ⟨v9, hv52, hf⟩ := bd_e hf
      refine ro_Vi (pc := 52) (As := [.int p1]) (rest := []) E (c_X9_heightOf l D cI cJ cZ cS mo_A mo_looks_A mo_period_A mo_shut_A mo_phase_A mo_quarters_A mo_tall_A mo_pairs_A mo_pad_A mo_cuts_A mo_at_A mo_first_A mo_kept_A mo_isKept_A mo_people mo_shots mo_looks mo_bride mo_hands mo_period mo_shut mo_phase mo_flash mo_quarters mo_tired mo_rows mo_columns mo_rise mo_tall mo_pairs mo_pad mo_padMany mo_cuts mo_at mo_first mo_kept mo_isKept mo_keptAt mo_isWriting p1 v9 hv52) F_X9_heightOf rfl rfl tw_1000 tw_1002 tp_41 hP ⟨by decide, by decide⟩ rfl hl.1 (Nat.le_of_ble_eq_true rfl) ⟨by decide, by decide⟩ rfl dX9_isHidden_52 ?_
      refine lv_aload_n (pc := 55) hx hb dX9_isHidden_55 rfl (lv_at hl 0 rfl) ?_
      refine lv_iload_n (pc := 56) hx hb dX9_isHidden_56 rfl (lv_at hl 2 rfl) ?_
      obtain ⟨v10, hv57, hf⟩ := bd_e hf
      refine ro_Vi (pc := 57) (As := [.int p2]) (rest := [.int v9]) E (c_X9_heightOf l D cI cJ cZ cS mo_A mo_looks_A mo_period_A mo_shut_A mo_phase_A mo_quarters_A mo_tall_A mo_pairs_A mo_pad_A mo_cuts_A mo_at_A mo_first_A mo_kept_A mo_isKept_A mo_people mo_shots mo_looks mo_bride mo_hands mo_period mo_shut mo_phase mo_flash mo_quarters mo_tired mo_rows mo_columns mo_rise mo_tall mo_pairs mo_pad mo_padMany mo_cuts mo_at mo_first mo_kept mo_isKept mo_keptAt mo_isWriting p2 v10 hv57) F_X9_heightOf rfl rfl tw_1000 tw_1002 tp_41 hP ⟨by decide, by decide⟩ rfl hl.1 (Nat.le_of_ble_eq_true rfl) ⟨by decide, by decide⟩ rfl dX9_isHidden_57 ?_
      refine r_ic_gt (pc := 60) (tgt := 67) hx hb dX9_isHidden_60 (by decide) hf (fun hf => ?_) (fun hf => ?_)
      · refine lv_iconst (pc := 67) (v := (0 : Int32)) hx hb dX9_isHidden_67 (by decide) ?_
        exact hQ _ _ _ dX9_isHidden_68 rfl hf
      · refine lv_iconst (pc := 63) (v := (1 : Int32)) hx hb dX9_isHidden_63 (by decide) ?_
        refine lv_goto (pc := 64) (tgt := 68) hx hb dX9_isHidden_64 (by decide) ?_
        exact hQ _ _ _ dX9_isHidden_68 rfl hf
theorem F_X9_areBeside : CalF yX9_areBeside cX9_areBeside 5 (some .boolean) 2 := ⟨tw_1007, tw_10, by decide +kernel⟩
set_option maxRecDepth 100000 in
set_option maxHeartbeats 4000000 in
theorem c_X9_areBeside (l : Launch) (D : va_G) (cI cJ cZ cS : ClassId) (mo_A mo_looks_A mo_period_A mo_shut_A mo_phase_A mo_quarters_A mo_tall_A mo_pairs_A mo_pad_A mo_cuts_A mo_at_A mo_first_A mo_kept_A mo_isKept_A : Nat) (mo_people : Int32) (mo_shots : Int32) (mo_looks : Nat → Int32) (mo_bride : Int32) (mo_hands : Int32) (mo_period : Nat → Int32) (mo_shut : Nat → Int32) (mo_phase : Nat → Int32) (mo_flash : Int32) (mo_quarters : Nat → Int32) (mo_tired : Int32) (mo_rows : Int32) (mo_columns : Int32) (mo_rise : Int32) (mo_tall : Nat → Int32) (mo_pairs : Nat → Int32) (mo_pad : Nat → Int32) (mo_padMany : Int32) (mo_cuts : Nat → Int32) (mo_at : Nat → Int32) (mo_first : Nat → Int32) (mo_kept : Nat → Int32) (mo_isKept : Nat → Int32) (mo_keptAt : Int32) (mo_isWriting : Int32) (p1 : Int32) (p2 : Int32) (r : Int32) (hf : f_X9_areBeside mo_columns mo_at p1 p2 = some r) : RoC l D cI cJ cZ cS yX9_areBeside cX9_areBeside 5 (some .boolean) 0 0 (w_X9 cI cJ cZ cS mo_A mo_looks_A mo_period_A mo_shut_A mo_phase_A mo_quarters_A mo_tall_A mo_pairs_A mo_pad_A mo_cuts_A mo_at_A mo_first_A mo_kept_A mo_isKept_A mo_people mo_shots mo_looks mo_bride mo_hands mo_period mo_shut mo_phase mo_flash mo_quarters mo_tired mo_rows mo_columns mo_rise mo_tall mo_pairs mo_pad mo_padMany mo_cuts mo_at mo_first mo_kept mo_isKept mo_keptAt mo_isWriting) [.ref mo_A, .int p1, .int p2] (some (.int r)) := by
  refine ro_in_z (own := RX9) (by decide +kernel) rfl (Nat.le_of_ble_eq_true rfl) ?_
  intro p e s m args below meth c ls Q E hQ hP hl
  obtain ⟨hx, hb, hml, hown, hts, hK, hN, hAO⟩ := id E
  have hl : lv_has ls 5 [(0, .ref mo_A), (1, .int p1), (2, .int p2)] := hl
  unfold f_X9_areBeside at hf
  refine lv_aload_n (pc := 0) hx hb dX9_areBeside_0 rfl (lv_at hl 0 rfl) ?_
  refine va_get (pc := 1) (D := D) (ci := 9) (v := .ref mo_at_A) (C := RX9) (T := TX9) (N := 25) hx hb hts inG9 hown hK hP 0 rfl rfl 19 (by decide) (hts _ tw_730) (fun _ h9 => h9) rfl dX9_areBeside_1 ?_
  refine lv_iload_n (pc := 4) hx hb dX9_areBeside_4 rfl (lv_at hl 1 rfl) ?_
  refine r_iald (pc := 5) hx hb hK hP 10 0 rfl rfl hf dX9_areBeside_5 (fun v1 hf => ?_)
  refine lv_aload_n (pc := 6) hx hb dX9_areBeside_6 rfl (lv_at hl 0 rfl) ?_
  refine va_get (pc := 7) (D := D) (ci := 9) (v := .int mo_columns) (C := RX9) (T := TX9) (N := 25) hx hb hts inG9 hown hK hP 0 rfl rfl 12 (by decide) (hts _ tw_723) (fun _ h9 => h9) rfl dX9_areBeside_7 ?_
  refine r_irem (pc := 10) hx hb hf dX9_areBeside_10 (fun v2 hf => ?_)
  refine lv_aload_n (pc := 11) hx hb dX9_areBeside_11 rfl (lv_at hl 0 rfl) ?_
  refine va_get (pc := 12) (D := D) (ci := 9) (v := .ref mo_at_A) (C := RX9) (T := TX9) (N := 25) hx hb hts inG9 hown hK hP 0 rfl rfl 19 (by decide) (hts _ tw_730) (fun _ h9 => h9) rfl dX9_areBeside_12 ?_
  refine lv_iload_n (pc := 15) hx hb dX9_areBeside_15 rfl (lv_at hl 2 rfl) ?_
  refine r_iald (pc := 16) hx hb hK hP 10 0 rfl rfl hf dX9_areBeside_16 (fun v3 hf => ?_)
  refine lv_aload_n (pc := 17) hx hb dX9_areBeside_17 rfl (lv_at hl 0 rfl) ?_
  refine va_get (pc := 18) (D := D) (ci := 9) (v := .int mo_columns) (C := RX9) (T := TX9) (N := 25) hx hb hts inG9 hown hK hP 0 rfl rfl 12 (by decide) (hts _ tw_723) (fun _ h9 => h9) rfl dX9_areBeside_18 ?_
  refine r_irem (pc := 21) hx hb hf dX9_areBeside_21 (fun v4 hf => ?_)
  refine lv_isub (pc := 22) hx hb dX9_areBeside_22 ?_
  refine lv_istore_n (pc := 23) (lv' := [(3, .int (v2 - v4)), (0, .ref mo_A), (1, .int p1), (2, .int p2)]) hx hb dX9_areBeside_23 rfl hl (by decide) rfl (fun ls hl => ?_)
  refine lv_aload_n (pc := 24) hx hb dX9_areBeside_24 rfl (lv_at hl 1 rfl) ?_
  refine va_get (pc := 25) (D := D) (ci := 9) (v := .ref mo_at_A) (C := RX9) (T := TX9) (N := 25) hx hb hts inG9 hown hK hP 0 rfl rfl 19 (by decide) (hts _ tw_730) (fun _ h9 => h9) rfl dX9_areBeside_25 ?_
  refine lv_iload_n (pc := 28) hx hb dX9_areBeside_28 rfl (lv_at hl 2 rfl) ?_
  refine r_iald (pc := 29) hx hb hK hP 10 0 rfl rfl hf dX9_areBeside_29 (fun v5 hf => ?_)
  refine lv_aload_n (pc := 30) hx hb dX9_areBeside_30 rfl (lv_at hl 1 rfl) ?_
  refine va_get (pc := 31) (D := D) (ci := 9) (v := .int mo_columns) (C := RX9) (T := TX9) (N := 25) hx hb hts inG9 hown hK hP 0 rfl rfl 12 (by decide) (hts _ tw_723) (fun _ h9 => h9) rfl dX9_areBeside_31 ?_
  refine r_idiv (pc := 34) hx hb hf dX9_areBeside_34 (fun v6 hf => ?_)
  refine lv_aload_n (pc := 35) hx hb dX9_areBeside_35 rfl (lv_at hl 1 rfl) ?_
  refine va_get (pc := 36) (D := D) (ci := 9) (v := .ref mo_at_A) (C := RX9) (T := TX9) (N := 25) hx hb hts inG9 hown hK hP 0 rfl rfl 19 (by decide) (hts _ tw_730) (fun _ h9 => h9) rfl dX9_areBeside_36 ?_
  refine lv_iload_n (pc := 39) hx hb dX9_areBeside_39 rfl (lv_at hl 3 rfl) ?_
  refine r_iald (pc := 40) hx hb hK hP 10 0 rfl rfl hf dX9_areBeside_40 (fun v7 hf => ?_)
  refine lv_aload_n (pc := 41) hx hb dX9_areBeside_41 rfl (lv_at hl 1 rfl) ?_
  refine va_get (pc := 42) (D := D) (ci := 9) (v := .int mo_columns) (C := RX9) (T := TX9) (N := 25) hx hb hts inG9 hown hK hP 0 rfl rfl 12 (by decide) (hts _ tw_723) (fun _ h9 => h9) rfl dX9_areBeside_42 ?_
  refine r_idiv (pc := 45) hx hb hf dX9_areBeside_45 (fun v8 hf => ?_)
  refine lv_isub (pc := 46) hx hb dX9_areBeside_46 ?_
  refine lv_istore (pc := 47) (lv' := [(4, .int (v6 - v8)), (3, .int (v2 - v4)), (0, .ref mo_A), (1, .int p1), (2, .int p2)]) hx hb dX9_areBeside_47 hl (by decide) rfl (fun ls hl => ?_)
  refine lv_iload_n (pc := 49) hx hb dX9_areBeside_49 rfl (lv_at hl 1 rfl) ?_
  refine lv_iload_n (pc := 50) hx hb dX9_areBeside_50 rfl (lv_at hl 1 rfl) ?_
  refine lv_imul (pc := 51) hx hb dX9_areBeside_51 ?_
  refine lv_iload (pc := 52) hx hb dX9_areBeside_52 (lv_at hl 0 rfl) ?_
  refine lv_iload (pc := 54) hx hb dX9_areBeside_54 (lv_at hl 0 rfl) ?_
  refine lv_imul (pc := 56) hx hb dX9_areBeside_56 ?_
  refine lv_iadd (pc := 57) hx hb dX9_areBeside_57 ?_
  refine lv_iconst (pc := 58) (v := (1 : Int32)) hx hb dX9_areBeside_58 (by decide) ?_
  refine r_ic_ne (pc := 59) (tgt := 66) hx hb dX9_areBeside_59 (by decide) hf (fun hf => ?_) (fun hf => ?_)
  · refine lv_iconst (pc := 66) (v := (0 : Int32)) hx hb dX9_areBeside_66 (by decide) ?_
    exact hQ _ _ _ dX9_areBeside_67 rfl hf
  · refine lv_iconst (pc := 62) (v := (1 : Int32)) hx hb dX9_areBeside_62 (by decide) ?_
    refine lv_goto (pc := 63) (tgt := 67) hx hb dX9_areBeside_63 (by decide) ?_
    exact hQ _ _ _ dX9_areBeside_67 rfl hf
theorem F_X9_wrongWith : CalF yX9_wrongWith cX9_wrongWith 6 (some .int) 1 := ⟨tw_995, tw_10, by decide +kernel⟩
set_option maxRecDepth 100000 in
set_option maxHeartbeats 4000000 in
theorem c_X9_wrongWith (l : Launch) (D : va_G) (cI cJ cZ cS : ClassId) (N : Nat) (mo_A mo_looks_A mo_period_A mo_shut_A mo_phase_A mo_quarters_A mo_tall_A mo_pairs_A mo_pad_A mo_cuts_A mo_at_A mo_first_A mo_kept_A mo_isKept_A : Nat) (mo_people : Int32) (mo_shots : Int32) (mo_looks : Nat → Int32) (mo_bride : Int32) (mo_hands : Int32) (mo_period : Nat → Int32) (mo_shut : Nat → Int32) (mo_phase : Nat → Int32) (mo_flash : Int32) (mo_quarters : Nat → Int32) (mo_tired : Int32) (mo_rows : Int32) (mo_columns : Int32) (mo_rise : Int32) (mo_tall : Nat → Int32) (mo_pairs : Nat → Int32) (mo_pad : Nat → Int32) (mo_padMany : Int32) (mo_cuts : Nat → Int32) (mo_at : Nat → Int32) (mo_first : Nat → Int32) (mo_kept : Nat → Int32) (mo_isKept : Nat → Int32) (mo_keptAt : Int32) (mo_isWriting : Int32) (p1 : Int32) (r : Int32) (hf : f_X9_wrongWith N mo_people mo_columns mo_rise mo_tall mo_pairs mo_at p1 = some r) : RoC l D cI cJ cZ cS yX9_wrongWith cX9_wrongWith 6 (some .int) 2 43 (w_X9 cI cJ cZ cS mo_A mo_looks_A mo_period_A mo_shut_A mo_phase_A mo_quarters_A mo_tall_A mo_pairs_A mo_pad_A mo_cuts_A mo_at_A mo_first_A mo_kept_A mo_isKept_A mo_people mo_shots mo_looks mo_bride mo_hands mo_period mo_shut mo_phase mo_flash mo_quarters mo_tired mo_rows mo_columns mo_rise mo_tall mo_pairs mo_pad mo_padMany mo_cuts mo_at mo_first mo_kept mo_isKept mo_keptAt mo_isWriting) [.ref mo_A, .int p1] (some (.int r)) := by
  refine ro_in_i (own := RX9) (by decide +kernel) rfl (Nat.le_of_ble_eq_true rfl) ?_
  intro p e s m args below meth c ls Q E hQ hP hl
  obtain ⟨hx, hb, hml, hown, hts, hK, hN, hAO⟩ := id E
  have hl : lv_has ls 6 [(0, .ref mo_A), (1, .int p1)] := hl
  unfold f_X9_wrongWith at hf
  refine lv_bipush (pc := 0) (v := (-6 : Int32)) hx hb dX9_wrongWith_0 (by decide) ?_
  refine lv_istore_n (pc := 2) (lv' := [(2, .int (-6 : Int32)), (0, .ref mo_A), (1, .int p1)]) hx hb dX9_wrongWith_2 rfl hl (by decide) rfl (fun ls hl => ?_)
  refine lv_iconst (pc := 3) (v := (0 : Int32)) hx hb dX9_wrongWith_3 (by decide) ?_
  refine lv_istore_n (pc := 4) (lv' := [(3, .int (0 : Int32)), (2, .int (-6 : Int32)), (0, .ref mo_A), (1, .int p1)]) hx hb dX9_wrongWith_4 rfl hl (by decide) rfl (fun ls hl => ?_)
  obtain ⟨k4, hk4, hf⟩ := lc1_e hf
  have K4 : ∀ (z5 : Int32) (ls : Array Slot), k4 z5 = some r → lv_has ls 6 [(2, .int z5)] → W p l e (roR 2 43) s m args below meth c s.heap [] 0 0 Q (F0 m 114 ls []) := by
    intro z5 ls hf hl
    rw [hk4] at hf
    refine lv_iload_n (pc := 114) hx hb dX9_wrongWith_114 rfl (lv_at hl 0 rfl) ?_
    exact hQ _ _ _ dX9_wrongWith_115 hf
  have L5 : ∀ (n : Nat), ∀ (y1 : Int32) (y2 : Int32) (ls : Array Slot), f_X9_wrongWith_L5 mo_people mo_columns mo_rise mo_tall mo_pairs mo_at p1 k4 n y1 y2 = some r → lv_has ls 6 [(0, .ref mo_A), (1, .int p1), (2, .int y1), (3, .int y2)] → W p l e (roR 2 43) s m args below meth c s.heap [] 0 0 Q (F0 m 5 ls []) := by
    intro n
    induction n with
    | zero =>
      intro y1 y2 ls hf
      rw [f_X9_wrongWith_L5] at hf
      cases hf
    | succ n ih =>
      intro y1 y2 ls hf hl
      rw [f_X9_wrongWith_L5] at hf
      refine lv_iload_n (pc := 5) hx hb dX9_wrongWith_5 rfl (lv_at hl 3 rfl) ?_
      refine lv_aload_n (pc := 6) hx hb dX9_wrongWith_6 rfl (lv_at hl 0 rfl) ?_
      refine va_get (pc := 7) (D := D) (ci := 9) (v := .int mo_people) (C := RX9) (T := TX9) (N := 25) hx hb hts inG9 hown hK hP 0 rfl rfl 0 (by decide) (hts _ tw_711) (fun _ h9 => h9) rfl dX9_wrongWith_7 ?_
      refine r_ic_ge (pc := 10) (tgt := 114) hx hb dX9_wrongWith_10 (by decide) hf (fun hf => ?_) (fun hf => ?_)
      · exact K4 _ _ hf (lv_sub hl [2] rfl)
      · refine lv_iload_n (pc := 13) hx hb dX9_wrongWith_13 rfl (lv_at hl 3 rfl) ?_
        refine lv_iload_n (pc := 14) hx hb dX9_wrongWith_14 rfl (lv_at hl 1 rfl) ?_
        obtain ⟨k6, hk6, hf⟩ := lc1_e hf
        have K6 : ∀ (x19 : Int32) (ls : Array Slot), k6 x19 = some r → lv_has ls 6 [(0, .ref mo_A), (1, .int p1), (2, .int x19), (3, .int y2)] → W p l e (roR 2 43) s m args below meth c s.heap [] 0 0 Q (F0 m 108 ls []) := by
          intro x19 ls hf hl
          rw [hk6] at hf
          refine lv_iinc (pc := 108) (v := (y2 + (1 : Int32))) (lv' := [(3, .int (y2 + (1 : Int32))), (0, .ref mo_A), (1, .int p1), (2, .int x19)]) hx hb dX9_wrongWith_108 hl (k := 3) rfl (by rfl) (by decide) rfl (fun ls hl => ?_)
          refine lv_goto (pc := 111) (tgt := 5) hx hb dX9_wrongWith_111 (by decide) ?_
          exact ih _ _ _ hf (lv_sub hl [1, 2, 3, 0] rfl)
        refine r_ic_eq (pc := 15) (tgt := 108) hx hb dX9_wrongWith_15 (by decide) hf (fun hf => ?_) (fun hf => ?_)
        · exact K6 _ _ hf hl
        · refine lv_aload_n (pc := 18) hx hb dX9_wrongWith_18 rfl (lv_at hl 0 rfl) ?_
          refine va_get (pc := 19) (D := D) (ci := 9) (v := .ref mo_pairs_A) (C := RX9) (T := TX9) (N := 25) hx hb hts inG9 hown hK hP 0 rfl rfl 15 (by decide) (hts _ tw_726) (fun _ h9 => h9) rfl dX9_wrongWith_19 ?_
          refine lv_bipush (pc := 22) (v := (8 : Int32)) hx hb dX9_wrongWith_22 (by decide) ?_
          refine lv_iload_n (pc := 24) hx hb dX9_wrongWith_24 rfl (lv_at hl 1 rfl) ?_
          refine lv_imul (pc := 25) hx hb dX9_wrongWith_25 ?_
          refine lv_iload_n (pc := 26) hx hb dX9_wrongWith_26 rfl (lv_at hl 3 rfl) ?_
          refine lv_iadd (pc := 27) hx hb dX9_wrongWith_27 ?_
          refine r_iald (pc := 28) hx hb hK hP 7 0 rfl rfl hf dX9_wrongWith_28 (fun v7 hf => ?_)
          refine lv_istore (pc := 29) (lv' := [(4, .int v7), (0, .ref mo_A), (1, .int p1), (2, .int y1), (3, .int y2)]) hx hb dX9_wrongWith_29 hl (by decide) rfl (fun ls hl => ?_)
          refine lv_aload_n (pc := 31) hx hb dX9_wrongWith_31 rfl (lv_at hl 1 rfl) ?_
          refine lv_iload_n (pc := 32) hx hb dX9_wrongWith_32 rfl (lv_at hl 2 rfl) ?_
          refine lv_iload_n (pc := 33) hx hb dX9_wrongWith_33 rfl (lv_at hl 4 rfl) ?_
          obtain ⟨v8, hv34, hf⟩ := bd_e hf
          refine ro_Vi (pc := 34) (As := [.int p1, .int y2]) (rest := []) E (c_X9_isHidden l D cI cJ cZ cS mo_A mo_looks_A mo_period_A mo_shut_A mo_phase_A mo_quarters_A mo_tall_A mo_pairs_A mo_pad_A mo_cuts_A mo_at_A mo_first_A mo_kept_A mo_isKept_A mo_people mo_shots mo_looks mo_bride mo_hands mo_period mo_shut mo_phase mo_flash mo_quarters mo_tired mo_rows mo_columns mo_rise mo_tall mo_pairs mo_pad mo_padMany mo_cuts mo_at mo_first mo_kept mo_isKept mo_keptAt mo_isWriting p1 y2 v8 hv34) F_X9_isHidden rfl rfl tw_996 tw_998 tp_40 hP ⟨by decide, by decide⟩ rfl hl.1 (Nat.le_of_ble_eq_true rfl) ⟨by decide, by decide⟩ rfl dX9_wrongWith_34 ?_
          obtain ⟨k9, hk9, hf⟩ := lc1_e hf
          have K9 : ∀ (x14 : Int32) (ls : Array Slot), k9 x14 = some r → lv_has ls 6 [(0, .ref mo_A), (1, .int p1), (2, .int y1), (3, .int y2)] → W p l e (roR 2 43) s m args below meth c s.heap [] 0 0 Q (F0 m 84 ls [.int x14]) := by
            intro x14 ls hf hl
            rw [hk9] at hf
            refine lv_istore (pc := 84) (lv' := [(5, .int x14), (0, .ref mo_A), (1, .int p1), (2, .int y1), (3, .int y2)]) hx hb dX9_wrongWith_84 hl (by decide) rfl (fun ls hl => ?_)
            refine lv_iload (pc := 86) hx hb dX9_wrongWith_86 (lv_at hl 0 rfl) ?_
            obtain ⟨k16, hk16, hf⟩ := lc1_e hf
            have K16 : ∀ (x18 : Int32) (ls : Array Slot), k16 x18 = some r → lv_has ls 6 [(0, .ref mo_A), (1, .int p1), (3, .int y2)] → W p l e (roR 2 43) s m args below meth c s.heap [] 0 0 Q (F0 m 107 ls [.int x18]) := by
              intro x18 ls hf hl
              rw [hk16] at hf
              refine lv_istore_n (pc := 107) (lv' := [(2, .int x18), (0, .ref mo_A), (1, .int p1), (3, .int y2)]) hx hb dX9_wrongWith_107 rfl hl (by decide) rfl (fun ls hl => ?_)
              exact K6 _ _ hf (lv_sub hl [1, 2, 0, 3] rfl)
            obtain ⟨k15, hk15, hf⟩ := lc0_e hf
            have K15 : ∀  (ls : Array Slot), k15 = some r → lv_has ls 6 [(0, .ref mo_A), (1, .int p1), (2, .int y1), (3, .int y2)] → W p l e (roR 2 43) s m args below meth c s.heap [] 0 0 Q (F0 m 106 ls []) := by
              intro  ls hf hl
              rw [hk15] at hf
              refine lv_iload_n (pc := 106) hx hb dX9_wrongWith_106 rfl (lv_at hl 2 rfl) ?_
              exact K16 _ _ hf (lv_sub hl [0, 1, 3] rfl)
            refine r_if_lt (pc := 88) (tgt := 106) hx hb dX9_wrongWith_88 (by decide) hf (fun hf => ?_) (fun hf => ?_)
            · exact K15  _ hf (lv_sub hl [1, 2, 3, 4] rfl)
            · refine lv_iload_n (pc := 91) hx hb dX9_wrongWith_91 rfl (lv_at hl 3 rfl) ?_
              obtain ⟨k17, hk17, hf⟩ := lc0_e hf
              have K17 : ∀  (ls : Array Slot), k17 = some r → lv_has ls 6 [(0, .ref mo_A), (1, .int p1), (3, .int y2), (5, .int x14)] → W p l e (roR 2 43) s m args below meth c s.heap [] 0 0 Q (F0 m 101 ls []) := by
                intro  ls hf hl
                rw [hk17] at hf
                refine lv_iload (pc := 101) hx hb dX9_wrongWith_101 (lv_at hl 3 rfl) ?_
                refine lv_goto (pc := 103) (tgt := 107) hx hb dX9_wrongWith_103 (by decide) ?_
                exact K16 _ _ hf (lv_sub hl [0, 1, 2] rfl)
              refine r_if_lt (pc := 92) (tgt := 101) hx hb dX9_wrongWith_92 (by decide) hf (fun hf => ?_) (fun hf => ?_)
              · exact K17  _ hf (lv_sub hl [1, 2, 4, 0] rfl)
              · refine lv_iload (pc := 95) hx hb dX9_wrongWith_95 (lv_at hl 0 rfl) ?_
                refine lv_iload_n (pc := 97) hx hb dX9_wrongWith_97 rfl (lv_at hl 3 rfl) ?_
                refine r_ic_ge (pc := 98) (tgt := 106) hx hb dX9_wrongWith_98 (by decide) hf (fun hf => ?_) (fun hf => ?_)
                · exact K15  _ hf (lv_sub hl [1, 2, 3, 4] rfl)
                · exact K17  _ hf (lv_sub hl [1, 2, 4, 0] rfl)
          refine r_if_eq (pc := 37) (tgt := 44) hx hb dX9_wrongWith_37 (by decide) hf (fun hf => ?_) (fun hf => ?_)
          · refine lv_iload (pc := 44) hx hb dX9_wrongWith_44 (lv_at hl 0 rfl) ?_
            refine lv_iconst (pc := 46) (v := (1 : Int32)) hx hb dX9_wrongWith_46 (by decide) ?_
            obtain ⟨k10, hk10, hf⟩ := lc0_e hf
            have K10 : ∀  (ls : Array Slot), k10 = some r → lv_has ls 6 [(0, .ref mo_A), (1, .int p1), (2, .int y1), (3, .int y2), (4, .int v7)] → W p l e (roR 2 43) s m args below meth c s.heap [] 0 0 Q (F0 m 63 ls []) := by
              intro  ls hf hl
              rw [hk10] at hf
              refine lv_iload (pc := 63) hx hb dX9_wrongWith_63 (lv_at hl 4 rfl) ?_
              refine lv_iconst (pc := 65) (v := (2 : Int32)) hx hb dX9_wrongWith_65 (by decide) ?_
              obtain ⟨k12, hk12, hf⟩ := lc0_e hf
              have K12 : ∀  (ls : Array Slot), k12 = some r → lv_has ls 6 [(0, .ref mo_A), (1, .int p1), (2, .int y1), (3, .int y2)] → W p l e (roR 2 43) s m args below meth c s.heap [] 0 0 Q (F0 m 82 ls []) := by
                intro  ls hf hl
                rw [hk12] at hf
                refine lv_bipush (pc := 82) (v := (-6 : Int32)) hx hb dX9_wrongWith_82 (by decide) ?_
                exact K9 _ _ hf hl
              refine r_ic_ne (pc := 66) (tgt := 82) hx hb dX9_wrongWith_66 (by decide) hf (fun hf => ?_) (fun hf => ?_)
              · exact K12  _ hf (lv_sub hl [0, 1, 2, 3] rfl)
              · refine lv_aload_n (pc := 69) hx hb dX9_wrongWith_69 rfl (lv_at hl 0 rfl) ?_
                refine lv_iload_n (pc := 70) hx hb dX9_wrongWith_70 rfl (lv_at hl 1 rfl) ?_
                refine lv_iload_n (pc := 71) hx hb dX9_wrongWith_71 rfl (lv_at hl 3 rfl) ?_
                obtain ⟨v13, hv72, hf⟩ := bd_e hf
                refine ro_Vi (pc := 72) (As := [.int p1, .int y2]) (rest := []) E (c_X9_areBeside l D cI cJ cZ cS mo_A mo_looks_A mo_period_A mo_shut_A mo_phase_A mo_quarters_A mo_tall_A mo_pairs_A mo_pad_A mo_cuts_A mo_at_A mo_first_A mo_kept_A mo_isKept_A mo_people mo_shots mo_looks mo_bride mo_hands mo_period mo_shut mo_phase mo_flash mo_quarters mo_tired mo_rows mo_columns mo_rise mo_tall mo_pairs mo_pad mo_padMany mo_cuts mo_at mo_first mo_kept mo_isKept mo_keptAt mo_isWriting p1 y2 v13 hv72) F_X9_areBeside rfl rfl tw_1004 tw_1006 tp_42 hP ⟨by decide, by decide⟩ rfl hl.1 (Nat.le_of_ble_eq_true rfl) ⟨by decide, by decide⟩ rfl dX9_wrongWith_72 ?_
                refine r_if_ne (pc := 75) (tgt := 82) hx hb dX9_wrongWith_75 (by decide) hf (fun hf => ?_) (fun hf => ?_)
                · exact K12  _ hf (lv_sub hl [0, 1, 2, 3] rfl)
                · refine lv_iconst (pc := 78) (v := (3 : Int32)) hx hb dX9_wrongWith_78 (by decide) ?_
                  refine lv_goto (pc := 79) (tgt := 84) hx hb dX9_wrongWith_79 (by decide) ?_
                  exact K9 _ _ hf (lv_sub hl [0, 1, 2, 3] rfl)
            refine r_ic_ne (pc := 47) (tgt := 63) hx hb dX9_wrongWith_47 (by decide) hf (fun hf => ?_) (fun hf => ?_)
            · exact K10  _ hf (lv_sub hl [1, 2, 3, 4, 0] rfl)
            · refine lv_aload_n (pc := 50) hx hb dX9_wrongWith_50 rfl (lv_at hl 1 rfl) ?_
              refine lv_iload_n (pc := 51) hx hb dX9_wrongWith_51 rfl (lv_at hl 2 rfl) ?_
              refine lv_iload_n (pc := 52) hx hb dX9_wrongWith_52 rfl (lv_at hl 4 rfl) ?_
              obtain ⟨v11, hv53, hf⟩ := bd_e hf
              refine ro_Vi (pc := 53) (As := [.int p1, .int y2]) (rest := []) E (c_X9_areBeside l D cI cJ cZ cS mo_A mo_looks_A mo_period_A mo_shut_A mo_phase_A mo_quarters_A mo_tall_A mo_pairs_A mo_pad_A mo_cuts_A mo_at_A mo_first_A mo_kept_A mo_isKept_A mo_people mo_shots mo_looks mo_bride mo_hands mo_period mo_shut mo_phase mo_flash mo_quarters mo_tired mo_rows mo_columns mo_rise mo_tall mo_pairs mo_pad mo_padMany mo_cuts mo_at mo_first mo_kept mo_isKept mo_keptAt mo_isWriting p1 y2 v11 hv53) F_X9_areBeside rfl rfl tw_1004 tw_1006 tp_42 hP ⟨by decide, by decide⟩ rfl hl.1 (Nat.le_of_ble_eq_true rfl) ⟨by decide, by decide⟩ rfl dX9_wrongWith_53 ?_
              refine r_if_eq (pc := 56) (tgt := 63) hx hb dX9_wrongWith_56 (by decide) hf (fun hf => ?_) (fun hf => ?_)
              · exact K10  _ hf (lv_sub hl [1, 2, 3, 4, 0] rfl)
              · refine lv_iconst (pc := 59) (v := (2 : Int32)) hx hb dX9_wrongWith_59 (by decide) ?_
                refine lv_goto (pc := 60) (tgt := 84) hx hb dX9_wrongWith_60 (by decide) ?_
                exact K9 _ _ hf (lv_sub hl [1, 2, 3, 4] rfl)
          · refine lv_iconst (pc := 40) (v := (1 : Int32)) hx hb dX9_wrongWith_40 (by decide) ?_
            refine lv_goto (pc := 41) (tgt := 84) hx hb dX9_wrongWith_41 (by decide) ?_
            exact K9 _ _ hf (lv_sub hl [1, 2, 3, 4] rfl)
  exact L5 N _ _ _ hf (lv_sub hl [2, 3, 1, 0] rfl)
theorem F_X9_judge : CalF yX9_judge cX9_judge 4 (some .int) 1 := ⟨tw_991, tw_10, by decide +kernel⟩
set_option maxRecDepth 100000 in
set_option maxHeartbeats 4000000 in
theorem c_X9_judge (l : Launch) (D : va_G) (cI cJ cZ cS : ClassId) (N : Nat) (mo_A mo_looks_A mo_period_A mo_shut_A mo_phase_A mo_quarters_A mo_tall_A mo_pairs_A mo_pad_A mo_cuts_A mo_at_A mo_first_A mo_kept_A mo_isKept_A : Nat) (mo_people : Int32) (mo_shots : Int32) (mo_looks : Nat → Int32) (mo_bride : Int32) (mo_hands : Int32) (mo_period : Nat → Int32) (mo_shut : Nat → Int32) (mo_phase : Nat → Int32) (mo_flash : Int32) (mo_quarters : Nat → Int32) (mo_tired : Int32) (mo_rows : Int32) (mo_columns : Int32) (mo_rise : Int32) (mo_tall : Nat → Int32) (mo_pairs : Nat → Int32) (mo_pad : Nat → Int32) (mo_padMany : Int32) (mo_cuts : Nat → Int32) (mo_at : Nat → Int32) (mo_first : Nat → Int32) (mo_kept : Nat → Int32) (mo_isKept : Nat → Int32) (mo_keptAt : Int32) (mo_isWriting : Int32) (p1 : Int32) (sz : Nat) (r : Int32) (r_mo_at : Nat → Int32) (hf : f_X9_judge N mo_people mo_rows mo_columns mo_rise mo_tall mo_pairs mo_pad mo_padMany mo_at p1 = some (r, r_mo_at)) : RwC l D cI cJ cZ cS yX9_judge cX9_judge 4 (some .int) 3 68 (w_X9 cI cJ cZ cS mo_A mo_looks_A mo_period_A mo_shut_A mo_phase_A mo_quarters_A mo_tall_A mo_pairs_A mo_pad_A mo_cuts_A mo_at_A mo_first_A mo_kept_A mo_isKept_A mo_people mo_shots mo_looks mo_bride mo_hands mo_period mo_shut mo_phase mo_flash mo_quarters mo_tired mo_rows mo_columns mo_rise mo_tall mo_pairs mo_pad mo_padMany mo_cuts mo_at mo_first mo_kept mo_isKept mo_keptAt mo_isWriting) sz [.ref mo_A, .int p1] (some (.int r)) (w_X9 cI cJ cZ cS mo_A mo_looks_A mo_period_A mo_shut_A mo_phase_A mo_quarters_A mo_tall_A mo_pairs_A mo_pad_A mo_cuts_A mo_at_A mo_first_A mo_kept_A mo_isKept_A mo_people mo_shots mo_looks mo_bride mo_hands mo_period mo_shut mo_phase mo_flash mo_quarters mo_tired mo_rows mo_columns mo_rise mo_tall mo_pairs mo_pad mo_padMany mo_cuts r_mo_at mo_first mo_kept mo_isKept mo_keptAt mo_isWriting) := by
  refine rw_in_i (own := RX9) (by decide +kernel) rfl (Nat.le_of_ble_eq_true rfl) ?_
  intro p e s m args below meth c ls Q A E hA hQ hP hD hS hl
  obtain ⟨hx, hb, hml, hown, hts, hK, hN, hAO⟩ := id E
  have hl : lv_has ls 4 [(0, .ref mo_A), (1, .int p1)] := hl
  unfold f_X9_judge at hf
  obtain ⟨H, hH⟩ : ∃ H, H = s.heap := ⟨_, rfl⟩
  obtain ⟨locs, hlocs⟩ : ∃ L : List Loc, L = [] := ⟨_, rfl⟩
  rw [show W p l e (roR 3 68) s m args below meth c s.heap [] 0 0 Q (F0 m 0 ls []) = W p l e (roR 3 68) s m args below meth c H locs 0 0 Q (F0 m 0 ls []) by rw [hH, hlocs]]
  replace hS : va_S A s.heap H locs := by rw [hH, hlocs]; exact hS
  replace hP : va_P D vwCl (w_X9 cI cJ cZ cS mo_A mo_looks_A mo_period_A mo_shut_A mo_phase_A mo_quarters_A mo_tall_A mo_pairs_A mo_pad_A mo_cuts_A mo_at_A mo_first_A mo_kept_A mo_isKept_A mo_people mo_shots mo_looks mo_bride mo_hands mo_period mo_shut mo_phase mo_flash mo_quarters mo_tired mo_rows mo_columns mo_rise mo_tall mo_pairs mo_pad mo_padMany mo_cuts mo_at mo_first mo_kept mo_isKept mo_keptAt mo_isWriting) H := by rw [hH]; exact hP
  clear hH hlocs
  refine lv_iload_n (pc := 0) hx hb dX9_judge_0 rfl (lv_at hl 1 rfl) ?_
  refine lv_i2l (pc := 1) (v := (Int32.toInt64 p1)) hx hb dX9_judge_1 rfl ?_
  refine lv_lconst (pc := 2) (v := (0 : Int64)) hx hb dX9_judge_2 (by decide) ?_
  refine lv_lconst (pc := 3) (v := (1 : Int64)) hx hb dX9_judge_3 (by decide) ?_
  obtain ⟨v1, hv4, hf⟩ := bd_e hf
  refine ro_Si (pc := 4) (As := [.long (Int32.toInt64 p1), .long (0 : Int64), .long (1 : Int64)]) (rest := []) E (c_X9_in l D cI cJ cZ cS (Int32.toInt64 p1) (0 : Int64) (1 : Int64) v1 hv4) F_X9_in tw_793 tw_794  va_P_nil ⟨by decide, by decide⟩ rfl hl.1 (Nat.le_of_ble_eq_true rfl) ⟨by decide, by decide⟩ rfl dX9_judge_4 ?_
  refine r_if_ne (pc := 7) (tgt := 13) hx hb dX9_judge_7 (by decide) hf (fun hf => ?_) (fun hf => ?_)
  · refine lv_aload_n (pc := 13) hx hb dX9_judge_13 rfl (lv_at hl 0 rfl) ?_
    obtain ⟨v2, hv14, hf⟩ := bd_e hf
    refine ro_Vi (pc := 14) (As := []) (rest := []) E (c_X9_faultOfStanding l D cI cJ cZ cS N mo_A mo_looks_A mo_period_A mo_shut_A mo_phase_A mo_quarters_A mo_tall_A mo_pairs_A mo_pad_A mo_cuts_A mo_at_A mo_first_A mo_kept_A mo_isKept_A mo_people mo_shots mo_looks mo_bride mo_hands mo_period mo_shut mo_phase mo_flash mo_quarters mo_tired mo_rows mo_columns mo_rise mo_tall mo_pairs mo_pad mo_padMany mo_cuts mo_at mo_first mo_kept mo_isKept mo_keptAt mo_isWriting v2 hv14) F_X9_faultOfStanding rfl rfl tw_825 tw_827 tp_24 hP ⟨by decide, by decide⟩ rfl hl.1 (Nat.le_of_ble_eq_true rfl) ⟨by decide, by decide⟩ rfl dX9_judge_14 ?_
    refine r_if_lt (pc := 17) (tgt := 23) hx hb dX9_judge_17 (by decide) hf (fun hf => ?_) (fun hf => ?_)
    · refine lv_iconst (pc := 23) (v := (0 : Int32)) hx hb dX9_judge_23 (by decide) ?_
      refine lv_istore_n (pc := 24) (lv' := [(2, .int (0 : Int32)), (0, .ref mo_A), (1, .int p1)]) hx hb dX9_judge_24 rfl hl (by decide) rfl (fun ls hl => ?_)
      obtain ⟨k6, hk6, hf⟩ := lc1_e hf
      have K6 : ∀ (mo_at_7 : Nat → Int32) (H : Heap) (locs : List Loc) (ls : Array Slot), k6 mo_at_7 = some (r, r_mo_at) → va_P D vwCl (w_X9 cI cJ cZ cS mo_A mo_looks_A mo_period_A mo_shut_A mo_phase_A mo_quarters_A mo_tall_A mo_pairs_A mo_pad_A mo_cuts_A mo_at_A mo_first_A mo_kept_A mo_isKept_A mo_people mo_shots mo_looks mo_bride mo_hands mo_period mo_shut mo_phase mo_flash mo_quarters mo_tired mo_rows mo_columns mo_rise mo_tall mo_pairs mo_pad mo_padMany mo_cuts mo_at_7 mo_first mo_kept mo_isKept mo_keptAt mo_isWriting) H → va_D A (w_X9 cI cJ cZ cS mo_A mo_looks_A mo_period_A mo_shut_A mo_phase_A mo_quarters_A mo_tall_A mo_pairs_A mo_pad_A mo_cuts_A mo_at_A mo_first_A mo_kept_A mo_isKept_A mo_people mo_shots mo_looks mo_bride mo_hands mo_period mo_shut mo_phase mo_flash mo_quarters mo_tired mo_rows mo_columns mo_rise mo_tall mo_pairs mo_pad mo_padMany mo_cuts mo_at_7 mo_first mo_kept mo_isKept mo_keptAt mo_isWriting) → va_S A s.heap H locs → lv_has ls 4 [(0, .ref mo_A), (1, .int p1)] → W p l e (roR 3 68) s m args below meth c H locs 0 0 Q (F0 m 54 ls []) := by
        intro mo_at_7 H locs ls hf hP hD hS hl
        rw [hk6] at hf
        refine lv_iconst (pc := 54) (v := (0 : Int32)) hx hb dX9_judge_54 (by decide) ?_
        refine lv_istore_n (pc := 55) (lv' := [(2, .int (0 : Int32)), (0, .ref mo_A), (1, .int p1)]) hx hb dX9_judge_55 rfl hl (by decide) rfl (fun ls hl => ?_)
        obtain ⟨k12, hk12, hf⟩ := lc0_e hf
        have K12 : ∀  (H : Heap) (locs : List Loc) (ls : Array Slot), k12 = some (r, r_mo_at) → va_P D vwCl (w_X9 cI cJ cZ cS mo_A mo_looks_A mo_period_A mo_shut_A mo_phase_A mo_quarters_A mo_tall_A mo_pairs_A mo_pad_A mo_cuts_A mo_at_A mo_first_A mo_kept_A mo_isKept_A mo_people mo_shots mo_looks mo_bride mo_hands mo_period mo_shut mo_phase mo_flash mo_quarters mo_tired mo_rows mo_columns mo_rise mo_tall mo_pairs mo_pad mo_padMany mo_cuts mo_at_7 mo_first mo_kept mo_isKept mo_keptAt mo_isWriting) H → va_D A (w_X9 cI cJ cZ cS mo_A mo_looks_A mo_period_A mo_shut_A mo_phase_A mo_quarters_A mo_tall_A mo_pairs_A mo_pad_A mo_cuts_A mo_at_A mo_first_A mo_kept_A mo_isKept_A mo_people mo_shots mo_looks mo_bride mo_hands mo_period mo_shut mo_phase mo_flash mo_quarters mo_tired mo_rows mo_columns mo_rise mo_tall mo_pairs mo_pad mo_padMany mo_cuts mo_at_7 mo_first mo_kept mo_isKept mo_keptAt mo_isWriting) → va_S A s.heap H locs → lv_has ls 4 [] → W p l e (roR 3 68) s m args below meth c H locs 0 0 Q (F0 m 90 ls []) := by
          intro  H locs ls hf hP hD hS hl
          rw [hk12] at hf
          refine lv_bipush (pc := 90) (v := (-6 : Int32)) hx hb dX9_judge_90 (by decide) ?_
          cases hf
          exact hQ _ _ _ _ _ dX9_judge_92 rfl hP hD hS
        have L56 : ∀ (n : Nat), ∀ (y10 : Int32) (H : Heap) (locs : List Loc) (ls : Array Slot), f_X9_judge_L56 mo_people mo_columns mo_rise mo_tall mo_pairs p1 mo_at_7 N k12 n y10 = some (r, r_mo_at) → va_P D vwCl (w_X9 cI cJ cZ cS mo_A mo_looks_A mo_period_A mo_shut_A mo_phase_A mo_quarters_A mo_tall_A mo_pairs_A mo_pad_A mo_cuts_A mo_at_A mo_first_A mo_kept_A mo_isKept_A mo_people mo_shots mo_looks mo_bride mo_hands mo_period mo_shut mo_phase mo_flash mo_quarters mo_tired mo_rows mo_columns mo_rise mo_tall mo_pairs mo_pad mo_padMany mo_cuts mo_at_7 mo_first mo_kept mo_isKept mo_keptAt mo_isWriting) H → va_D A (w_X9 cI cJ cZ cS mo_A mo_looks_A mo_period_A mo_shut_A mo_phase_A mo_quarters_A mo_tall_A mo_pairs_A mo_pad_A mo_cuts_A mo_at_A mo_first_A mo_kept_A mo_isKept_A mo_people mo_shots mo_looks mo_bride mo_hands mo_period mo_shut mo_phase mo_flash mo_quarters mo_tired mo_rows mo_columns mo_rise mo_tall mo_pairs mo_pad mo_padMany mo_cuts mo_at_7 mo_first mo_kept mo_isKept mo_keptAt mo_isWriting) → va_S A s.heap H locs → lv_has ls 4 [(0, .ref mo_A), (1, .int p1), (2, .int y10)] → W p l e (roR 3 68) s m args below meth c H locs 0 0 Q (F0 m 56 ls []) := by
          intro n
          induction n with
          | zero =>
            intro y10 H locs ls hf
            rw [f_X9_judge_L56] at hf
            cases hf
          | succ n ih =>
            intro y10 H locs ls hf hP hD hS hl
            rw [f_X9_judge_L56] at hf
            refine lv_iload_n (pc := 56) hx hb dX9_judge_56 rfl (lv_at hl 2 rfl) ?_
            refine lv_aload_n (pc := 57) hx hb dX9_judge_57 rfl (lv_at hl 0 rfl) ?_
            refine va_get (pc := 58) (D := D) (ci := 9) (v := .int mo_people) (C := RX9) (T := TX9) (N := 25) hx hb hts inG9 hown hK hP 0 rfl rfl 0 (by decide) (hts _ tw_711) (fun _ h9 => h9) rfl dX9_judge_58 ?_
            refine r_ic_ge (pc := 61) (tgt := 90) hx hb dX9_judge_61 (by decide) hf (fun hf => ?_) (fun hf => ?_)
            · exact K12  _ _ _ hf hP hD hS (lv_sub hl [] rfl)
            · refine lv_aload_n (pc := 64) hx hb dX9_judge_64 rfl (lv_at hl 0 rfl) ?_
              refine lv_iload_n (pc := 65) hx hb dX9_judge_65 rfl (lv_at hl 2 rfl) ?_
              obtain ⟨v13, hv66, hf⟩ := bd_e hf
              refine ro_Vi (pc := 66) (As := [.int y10]) (rest := []) E (c_X9_wrongWith l D cI cJ cZ cS N mo_A mo_looks_A mo_period_A mo_shut_A mo_phase_A mo_quarters_A mo_tall_A mo_pairs_A mo_pad_A mo_cuts_A mo_at_A mo_first_A mo_kept_A mo_isKept_A mo_people mo_shots mo_looks mo_bride mo_hands mo_period mo_shut mo_phase mo_flash mo_quarters mo_tired mo_rows mo_columns mo_rise mo_tall mo_pairs mo_pad mo_padMany mo_cuts mo_at_7 mo_first mo_kept mo_isKept mo_keptAt mo_isWriting y10 v13 hv66) F_X9_wrongWith rfl rfl tw_992 tw_994 tp_39 hP ⟨by decide, by decide⟩ rfl hl.1 (Nat.le_of_ble_eq_true rfl) ⟨by decide, by decide⟩ rfl dX9_judge_66 ?_
              refine lv_istore_n (pc := 69) (lv' := [(3, .int v13), (0, .ref mo_A), (1, .int p1), (2, .int y10)]) hx hb dX9_judge_69 rfl hl (by decide) rfl (fun ls hl => ?_)
              refine lv_iload_n (pc := 70) hx hb dX9_judge_70 rfl (lv_at hl 0 rfl) ?_
              refine r_if_lt (pc := 71) (tgt := 84) hx hb dX9_judge_71 (by decide) hf (fun hf => ?_) (fun hf => ?_)
              · refine lv_iinc (pc := 84) (v := (y10 + (1 : Int32))) (lv' := [(2, .int (y10 + (1 : Int32))), (3, .int v13), (0, .ref mo_A), (1, .int p1)]) hx hb dX9_judge_84 hl (k := 3) rfl (by rfl) (by decide) rfl (fun ls hl => ?_)
                refine lv_goto (pc := 87) (tgt := 56) hx hb dX9_judge_87 (by decide) ?_
                exact ih _ _ _ _ hf hP hD hS (lv_sub hl [2, 3, 0] rfl)
              · refine lv_iload_n (pc := 74) hx hb dX9_judge_74 rfl (lv_at hl 2 rfl) ?_
                refine r_if_ne (pc := 75) (tgt := 82) hx hb dX9_judge_75 (by decide) hf (fun hf => ?_) (fun hf => ?_)
                · refine lv_iload_n (pc := 82) hx hb dX9_judge_82 rfl (lv_at hl 0 rfl) ?_
                  cases hf
                  exact hQ _ _ _ _ _ dX9_judge_83 rfl hP hD hS
                · refine lv_iload_n (pc := 78) hx hb dX9_judge_78 rfl (lv_at hl 3 rfl) ?_
                  refine lv_goto (pc := 79) (tgt := 83) hx hb dX9_judge_79 (by decide) ?_
                  cases hf
                  exact hQ _ _ _ _ _ dX9_judge_83 rfl hP hD hS
        exact L56 N _ _ _ _ hf hP hD hS (lv_sub hl [1, 2, 0] rfl)
      have L25 : ∀ (n : Nat), ∀ (y3 : Int32) (mo_at_4 : Nat → Int32) (H : Heap) (locs : List Loc) (ls : Array Slot), f_X9_judge_L25 mo_people mo_pad k6 n y3 mo_at_4 = some (r, r_mo_at) → va_P D vwCl (w_X9 cI cJ cZ cS mo_A mo_looks_A mo_period_A mo_shut_A mo_phase_A mo_quarters_A mo_tall_A mo_pairs_A mo_pad_A mo_cuts_A mo_at_A mo_first_A mo_kept_A mo_isKept_A mo_people mo_shots mo_looks mo_bride mo_hands mo_period mo_shut mo_phase mo_flash mo_quarters mo_tired mo_rows mo_columns mo_rise mo_tall mo_pairs mo_pad mo_padMany mo_cuts mo_at_4 mo_first mo_kept mo_isKept mo_keptAt mo_isWriting) H → va_D A (w_X9 cI cJ cZ cS mo_A mo_looks_A mo_period_A mo_shut_A mo_phase_A mo_quarters_A mo_tall_A mo_pairs_A mo_pad_A mo_cuts_A mo_at_A mo_first_A mo_kept_A mo_isKept_A mo_people mo_shots mo_looks mo_bride mo_hands mo_period mo_shut mo_phase mo_flash mo_quarters mo_tired mo_rows mo_columns mo_rise mo_tall mo_pairs mo_pad mo_padMany mo_cuts mo_at_4 mo_first mo_kept mo_isKept mo_keptAt mo_isWriting) → va_S A s.heap H locs → lv_has ls 4 [(0, .ref mo_A), (1, .int p1), (2, .int y3)] → W p l e (roR 3 68) s m args below meth c H locs 0 0 Q (F0 m 25 ls []) := by
        intro n
        induction n with
        | zero =>
          intro y3 mo_at_4 H locs ls hf
          rw [f_X9_judge_L25] at hf
          cases hf
        | succ n ih =>
          intro y3 mo_at_4 H locs ls hf hP hD hS hl
          rw [f_X9_judge_L25] at hf
          refine lv_iload_n (pc := 25) hx hb dX9_judge_25 rfl (lv_at hl 2 rfl) ?_
          refine lv_aload_n (pc := 26) hx hb dX9_judge_26 rfl (lv_at hl 0 rfl) ?_
          refine va_get (pc := 27) (D := D) (ci := 9) (v := .int mo_people) (C := RX9) (T := TX9) (N := 25) hx hb hts inG9 hown hK hP 0 rfl rfl 0 (by decide) (hts _ tw_711) (fun _ h9 => h9) rfl dX9_judge_27 ?_
          refine r_ic_ge (pc := 30) (tgt := 54) hx hb dX9_judge_30 (by decide) hf (fun hf => ?_) (fun hf => ?_)
          · exact K6 _ _ _ _ hf hP hD hS (lv_sub hl [0, 1] rfl)
          · refine lv_aload_n (pc := 33) hx hb dX9_judge_33 rfl (lv_at hl 0 rfl) ?_
            refine va_get (pc := 34) (D := D) (ci := 9) (v := .ref mo_at_A) (C := RX9) (T := TX9) (N := 25) hx hb hts inG9 hown hK hP 0 rfl rfl 19 (by decide) (hts _ tw_730) (fun _ h9 => h9) rfl dX9_judge_34 ?_
            refine lv_iload_n (pc := 37) hx hb dX9_judge_37 rfl (lv_at hl 2 rfl) ?_
            refine lv_aload_n (pc := 38) hx hb dX9_judge_38 rfl (lv_at hl 0 rfl) ?_
            refine va_get (pc := 39) (D := D) (ci := 9) (v := .ref mo_pad_A) (C := RX9) (T := TX9) (N := 25) hx hb hts inG9 hown hK hP 0 rfl rfl 16 (by decide) (hts _ tw_727) (fun _ h9 => h9) rfl dX9_judge_39 ?_
            refine lv_iload_n (pc := 42) hx hb dX9_judge_42 rfl (lv_at hl 2 rfl) ?_
            refine r_iald (pc := 43) hx hb hK hP 8 0 rfl rfl hf dX9_judge_43 (fun v8 hf => ?_)
            refine lv_bipush (pc := 44) (v := (48 : Int32)) hx hb dX9_judge_44 (by decide) ?_
            refine lv_isub (pc := 46) hx hb dX9_judge_46 ?_
            refine r_iast (pc := 47) hx hb hK hP hD hS 10 0 rfl rfl hf dX9_judge_47 (fun mo_at_9 H locs hf hP hD hS => ?_)
            have hP : va_P D vwCl (w_X9 cI cJ cZ cS mo_A mo_looks_A mo_period_A mo_shut_A mo_phase_A mo_quarters_A mo_tall_A mo_pairs_A mo_pad_A mo_cuts_A mo_at_A mo_first_A mo_kept_A mo_isKept_A mo_people mo_shots mo_looks mo_bride mo_hands mo_period mo_shut mo_phase mo_flash mo_quarters mo_tired mo_rows mo_columns mo_rise mo_tall mo_pairs mo_pad mo_padMany mo_cuts mo_at_9 mo_first mo_kept mo_isKept mo_keptAt mo_isWriting) H := hP
            have hD : va_D A (w_X9 cI cJ cZ cS mo_A mo_looks_A mo_period_A mo_shut_A mo_phase_A mo_quarters_A mo_tall_A mo_pairs_A mo_pad_A mo_cuts_A mo_at_A mo_first_A mo_kept_A mo_isKept_A mo_people mo_shots mo_looks mo_bride mo_hands mo_period mo_shut mo_phase mo_flash mo_quarters mo_tired mo_rows mo_columns mo_rise mo_tall mo_pairs mo_pad mo_padMany mo_cuts mo_at_9 mo_first mo_kept mo_isKept mo_keptAt mo_isWriting) := hD
            refine lv_iinc (pc := 48) (v := (y3 + (1 : Int32))) (lv' := [(2, .int (y3 + (1 : Int32))), (0, .ref mo_A), (1, .int p1)]) hx hb dX9_judge_48 hl (k := 2) rfl (by rfl) (by decide) rfl (fun ls hl => ?_)
            refine lv_goto (pc := 51) (tgt := 25) hx hb dX9_judge_51 (by decide) ?_
            exact ih _ _ _ _ _ hf hP hD hS (lv_sub hl [1, 2, 0] rfl)
      exact L25 N _ _ _ _ _ hf hP hD hS (lv_sub hl [1, 2, 0] rfl)
    · refine lv_bipush (pc := 20) (v := (-5 : Int32)) hx hb dX9_judge_20 (by decide) ?_
      cases hf
      exact hQ _ _ _ _ _ dX9_judge_22 rfl hP hD hS
  · refine lv_bipush (pc := 10) (v := (-2 : Int32)) hx hb dX9_judge_10 (by decide) ?_
    cases hf
    exact hQ _ _ _ _ _ dX9_judge_12 rfl hP hD hS
theorem F_X9_goesWith : CalF yX9_goesWith cX9_goesWith 5 (some .boolean) 1 := ⟨tw_1019, tw_10, by decide +kernel⟩
set_option maxRecDepth 100000 in
set_option maxHeartbeats 4000000 in
theorem c_X9_goesWith (l : Launch) (D : va_G) (cI cJ cZ cS : ClassId) (N : Nat) (mo_A mo_looks_A mo_period_A mo_shut_A mo_phase_A mo_quarters_A mo_tall_A mo_pairs_A mo_pad_A mo_cuts_A mo_at_A mo_first_A mo_kept_A mo_isKept_A : Nat) (mo_people : Int32) (mo_shots : Int32) (mo_looks : Nat → Int32) (mo_bride : Int32) (mo_hands : Int32) (mo_period : Nat → Int32) (mo_shut : Nat → Int32) (mo_phase : Nat → Int32) (mo_flash : Int32) (mo_quarters : Nat → Int32) (mo_tired : Int32) (mo_rows : Int32) (mo_columns : Int32) (mo_rise : Int32) (mo_tall : Nat → Int32) (mo_pairs : Nat → Int32) (mo_pad : Nat → Int32) (mo_padMany : Int32) (mo_cuts : Nat → Int32) (mo_at : Nat → Int32) (mo_first : Nat → Int32) (mo_kept : Nat → Int32) (mo_isKept : Nat → Int32) (mo_keptAt : Int32) (mo_isWriting : Int32) (p1 : Int32) (r : Int32) (hf : f_X9_goesWith N mo_rows mo_columns mo_rise mo_tall mo_pairs mo_at p1 = some r) : RoC l D cI cJ cZ cS yX9_goesWith cX9_goesWith 5 (some .boolean) 2 43 (w_X9 cI cJ cZ cS mo_A mo_looks_A mo_period_A mo_shut_A mo_phase_A mo_quarters_A mo_tall_A mo_pairs_A mo_pad_A mo_cuts_A mo_at_A mo_first_A mo_kept_A mo_isKept_A mo_people mo_shots mo_looks mo_bride mo_hands mo_period mo_shut mo_phase mo_flash mo_quarters mo_tired mo_rows mo_columns mo_rise mo_tall mo_pairs mo_pad mo_padMany mo_cuts mo_at mo_first mo_kept mo_isKept mo_keptAt mo_isWriting) [.ref mo_A, .int p1] (some (.int r)) := by
  refine ro_in_z (own := RX9) (by decide +kernel) rfl (Nat.le_of_ble_eq_true rfl) ?_
  intro p e s m args below meth c ls Q E hQ hP hl
  obtain ⟨hx, hb, hml, hown, hts, hK, hN, hAO⟩ := id E
  have hl : lv_has ls 5 [(0, .ref mo_A), (1, .int p1)] := hl
  unfold f_X9_goesWith at hf
  refine lv_aload_n (pc := 0) hx hb dX9_goesWith_0 rfl (lv_at hl 0 rfl) ?_
  refine va_get (pc := 1) (D := D) (ci := 9) (v := .ref mo_at_A) (C := RX9) (T := TX9) (N := 25) hx hb hts inG9 hown hK hP 0 rfl rfl 19 (by decide) (hts _ tw_730) (fun _ h9 => h9) rfl dX9_goesWith_1 ?_
  refine lv_iload_n (pc := 4) hx hb dX9_goesWith_4 rfl (lv_at hl 1 rfl) ?_
  refine r_iald (pc := 5) hx hb hK hP 10 0 rfl rfl hf dX9_goesWith_5 (fun v1 hf => ?_)
  refine lv_aload_n (pc := 6) hx hb dX9_goesWith_6 rfl (lv_at hl 0 rfl) ?_
  obtain ⟨v2, hv7, hf⟩ := bd_e hf
  refine ro_Vi (pc := 7) (As := []) (rest := [.int v1]) E (c_X9_places l D cI cJ cZ cS mo_A mo_looks_A mo_period_A mo_shut_A mo_phase_A mo_quarters_A mo_tall_A mo_pairs_A mo_pad_A mo_cuts_A mo_at_A mo_first_A mo_kept_A mo_isKept_A mo_people mo_shots mo_looks mo_bride mo_hands mo_period mo_shut mo_phase mo_flash mo_quarters mo_tired mo_rows mo_columns mo_rise mo_tall mo_pairs mo_pad mo_padMany mo_cuts mo_at mo_first mo_kept mo_isKept mo_keptAt mo_isWriting v2 hv7) F_X9_places rfl rfl tw_829 tw_831 tp_25 hP ⟨by decide, by decide⟩ rfl hl.1 (Nat.le_of_ble_eq_true rfl) ⟨by decide, by decide⟩ rfl dX9_goesWith_7 ?_
  obtain ⟨k3, hk3, hf⟩ := lc1_e hf
  have K3 : ∀ (x4 : Int32) (ls : Array Slot), k3 x4 = some r → lv_has ls 5 [(0, .ref mo_A), (1, .int p1)] → W p l e (roR 2 43) s m args below meth c s.heap [] 0 0 Q (F0 m 18 ls [.int x4]) := by
    intro x4 ls hf hl
    rw [hk3] at hf
    refine lv_istore_n (pc := 18) (lv' := [(2, .int x4), (0, .ref mo_A), (1, .int p1)]) hx hb dX9_goesWith_18 rfl hl (by decide) rfl (fun ls hl => ?_)
    refine lv_iconst (pc := 19) (v := (0 : Int32)) hx hb dX9_goesWith_19 (by decide) ?_
    refine lv_istore_n (pc := 20) (lv' := [(3, .int (0 : Int32)), (2, .int x4), (0, .ref mo_A), (1, .int p1)]) hx hb dX9_goesWith_20 rfl hl (by decide) rfl (fun ls hl => ?_)
    obtain ⟨k8, hk8, hf⟩ := lc1_e hf
    have K8 : ∀ (z9 : Int32) (ls : Array Slot), k8 z9 = some r → lv_has ls 5 [(2, .int z9)] → W p l e (roR 2 43) s m args below meth c s.heap [] 0 0 Q (F0 m 118 ls []) := by
      intro z9 ls hf hl
      rw [hk8] at hf
      refine lv_iload_n (pc := 118) hx hb dX9_goesWith_118 rfl (lv_at hl 0 rfl) ?_
      exact hQ _ _ _ dX9_goesWith_119 (bz_e hf).2 (congrArg some (bz_e hf).1)
    have L21 : ∀ (n : Nat), ∀ (y5 : Int32) (y6 : Int32) (ls : Array Slot), f_X9_goesWith_L21 mo_columns mo_rise mo_tall mo_pairs mo_at p1 k8 n y5 y6 = some r → lv_has ls 5 [(0, .ref mo_A), (1, .int p1), (2, .int y5), (3, .int y6)] → W p l e (roR 2 43) s m args below meth c s.heap [] 0 0 Q (F0 m 21 ls []) := by
      intro n
      induction n with
      | zero =>
        intro y5 y6 ls hf
        rw [f_X9_goesWith_L21] at hf
        cases hf
      | succ n ih =>
        intro y5 y6 ls hf hl
        rw [f_X9_goesWith_L21] at hf
        refine lv_iload_n (pc := 21) hx hb dX9_goesWith_21 rfl (lv_at hl 3 rfl) ?_
        refine lv_iload_n (pc := 22) hx hb dX9_goesWith_22 rfl (lv_at hl 1 rfl) ?_
        refine r_ic_ge (pc := 23) (tgt := 118) hx hb dX9_goesWith_23 (by decide) hf (fun hf => ?_) (fun hf => ?_)
        · exact K8 _ _ hf (lv_sub hl [2] rfl)
        · refine lv_iload_n (pc := 26) hx hb dX9_goesWith_26 rfl (lv_at hl 2 rfl) ?_
          refine r_if_eq (pc := 27) (tgt := 118) hx hb dX9_goesWith_27 (by decide) hf (fun hf => ?_) (fun hf => ?_)
          · exact K8 _ _ hf (lv_sub hl [2] rfl)
          · refine lv_aload_n (pc := 30) hx hb dX9_goesWith_30 rfl (lv_at hl 0 rfl) ?_
            refine va_get (pc := 31) (D := D) (ci := 9) (v := .ref mo_pairs_A) (C := RX9) (T := TX9) (N := 25) hx hb hts inG9 hown hK hP 0 rfl rfl 15 (by decide) (hts _ tw_726) (fun _ h9 => h9) rfl dX9_goesWith_31 ?_
            refine lv_bipush (pc := 34) (v := (8 : Int32)) hx hb dX9_goesWith_34 (by decide) ?_
            refine lv_iload_n (pc := 36) hx hb dX9_goesWith_36 rfl (lv_at hl 1 rfl) ?_
            refine lv_imul (pc := 37) hx hb dX9_goesWith_37 ?_
            refine lv_iload_n (pc := 38) hx hb dX9_goesWith_38 rfl (lv_at hl 3 rfl) ?_
            refine lv_iadd (pc := 39) hx hb dX9_goesWith_39 ?_
            refine r_iald (pc := 40) hx hb hK hP 7 0 rfl rfl hf dX9_goesWith_40 (fun v10 hf => ?_)
            refine lv_istore (pc := 41) (lv' := [(4, .int v10), (0, .ref mo_A), (1, .int p1), (2, .int y5), (3, .int y6)]) hx hb dX9_goesWith_41 hl (by decide) rfl (fun ls hl => ?_)
            refine lv_aload_n (pc := 43) hx hb dX9_goesWith_43 rfl (lv_at hl 1 rfl) ?_
            refine va_get (pc := 44) (D := D) (ci := 9) (v := .ref mo_at_A) (C := RX9) (T := TX9) (N := 25) hx hb hts inG9 hown hK hP 0 rfl rfl 19 (by decide) (hts _ tw_730) (fun _ h9 => h9) rfl dX9_goesWith_44 ?_
            refine lv_iload_n (pc := 47) hx hb dX9_goesWith_47 rfl (lv_at hl 4 rfl) ?_
            refine r_iald (pc := 48) hx hb hK hP 10 0 rfl rfl hf dX9_goesWith_48 (fun v11 hf => ?_)
            refine lv_aload_n (pc := 49) hx hb dX9_goesWith_49 rfl (lv_at hl 1 rfl) ?_
            refine va_get (pc := 50) (D := D) (ci := 9) (v := .ref mo_at_A) (C := RX9) (T := TX9) (N := 25) hx hb hts inG9 hown hK hP 0 rfl rfl 19 (by decide) (hts _ tw_730) (fun _ h9 => h9) rfl dX9_goesWith_50 ?_
            refine lv_iload_n (pc := 53) hx hb dX9_goesWith_53 rfl (lv_at hl 2 rfl) ?_
            refine r_iald (pc := 54) hx hb hK hP 10 0 rfl rfl hf dX9_goesWith_54 (fun v12 hf => ?_)
            obtain ⟨k14, hk14, hf⟩ := lc1_e hf
            have K14 : ∀ (x21 : Int32) (ls : Array Slot), k14 x21 = some r → lv_has ls 5 [(0, .ref mo_A), (1, .int p1), (3, .int y6)] → W p l e (roR 2 43) s m args below meth c s.heap [] 0 0 Q (F0 m 111 ls [.int x21]) := by
              intro x21 ls hf hl
              rw [hk14] at hf
              refine lv_istore_n (pc := 111) (lv' := [(2, .int x21), (0, .ref mo_A), (1, .int p1), (3, .int y6)]) hx hb dX9_goesWith_111 rfl hl (by decide) rfl (fun ls hl => ?_)
              refine lv_iinc (pc := 112) (v := (y6 + (1 : Int32))) (lv' := [(3, .int (y6 + (1 : Int32))), (2, .int x21), (0, .ref mo_A), (1, .int p1)]) hx hb dX9_goesWith_112 hl (k := 3) rfl (by rfl) (by decide) rfl (fun ls hl => ?_)
              refine lv_goto (pc := 115) (tgt := 21) hx hb dX9_goesWith_115 (by decide) ?_
              exact ih _ _ _ hf (lv_sub hl [2, 3, 1, 0] rfl)
            obtain ⟨k13, hk13, hf⟩ := lc0_e hf
            have K13 : ∀  (ls : Array Slot), k13 = some r → lv_has ls 5 [(0, .ref mo_A), (1, .int p1), (3, .int y6)] → W p l e (roR 2 43) s m args below meth c s.heap [] 0 0 Q (F0 m 110 ls []) := by
              intro  ls hf hl
              rw [hk13] at hf
              refine lv_iconst (pc := 110) (v := (0 : Int32)) hx hb dX9_goesWith_110 (by decide) ?_
              exact K14 _ _ hf hl
            refine r_ic_eq (pc := 55) (tgt := 110) hx hb dX9_goesWith_55 (by decide) hf (fun hf => ?_) (fun hf => ?_)
            · exact K13  _ hf (lv_sub hl [1, 2, 4] rfl)
            · refine lv_aload_n (pc := 58) hx hb dX9_goesWith_58 rfl (lv_at hl 1 rfl) ?_
              refine lv_iload_n (pc := 59) hx hb dX9_goesWith_59 rfl (lv_at hl 2 rfl) ?_
              refine lv_iload_n (pc := 60) hx hb dX9_goesWith_60 rfl (lv_at hl 4 rfl) ?_
              obtain ⟨v15, hv61, hf⟩ := bd_e hf
              refine ro_Vi (pc := 61) (As := [.int p1, .int y6]) (rest := []) E (c_X9_isHidden l D cI cJ cZ cS mo_A mo_looks_A mo_period_A mo_shut_A mo_phase_A mo_quarters_A mo_tall_A mo_pairs_A mo_pad_A mo_cuts_A mo_at_A mo_first_A mo_kept_A mo_isKept_A mo_people mo_shots mo_looks mo_bride mo_hands mo_period mo_shut mo_phase mo_flash mo_quarters mo_tired mo_rows mo_columns mo_rise mo_tall mo_pairs mo_pad mo_padMany mo_cuts mo_at mo_first mo_kept mo_isKept mo_keptAt mo_isWriting p1 y6 v15 hv61) F_X9_isHidden rfl rfl tw_996 tw_998 tp_40 hP ⟨by decide, by decide⟩ rfl hl.1 (Nat.le_of_ble_eq_true rfl) ⟨by decide, by decide⟩ rfl dX9_goesWith_61 ?_
              refine r_if_ne (pc := 64) (tgt := 110) hx hb dX9_goesWith_64 (by decide) hf (fun hf => ?_) (fun hf => ?_)
              · exact K13  _ hf (lv_sub hl [1, 2, 4] rfl)
              · refine lv_aload_n (pc := 67) hx hb dX9_goesWith_67 rfl (lv_at hl 1 rfl) ?_
                refine lv_iload_n (pc := 68) hx hb dX9_goesWith_68 rfl (lv_at hl 4 rfl) ?_
                refine lv_iload_n (pc := 69) hx hb dX9_goesWith_69 rfl (lv_at hl 2 rfl) ?_
                obtain ⟨v16, hv70, hf⟩ := bd_e hf
                refine ro_Vi (pc := 70) (As := [.int y6, .int p1]) (rest := []) E (c_X9_isHidden l D cI cJ cZ cS mo_A mo_looks_A mo_period_A mo_shut_A mo_phase_A mo_quarters_A mo_tall_A mo_pairs_A mo_pad_A mo_cuts_A mo_at_A mo_first_A mo_kept_A mo_isKept_A mo_people mo_shots mo_looks mo_bride mo_hands mo_period mo_shut mo_phase mo_flash mo_quarters mo_tired mo_rows mo_columns mo_rise mo_tall mo_pairs mo_pad mo_padMany mo_cuts mo_at mo_first mo_kept mo_isKept mo_keptAt mo_isWriting y6 p1 v16 hv70) F_X9_isHidden rfl rfl tw_996 tw_998 tp_40 hP ⟨by decide, by decide⟩ rfl hl.1 (Nat.le_of_ble_eq_true rfl) ⟨by decide, by decide⟩ rfl dX9_goesWith_70 ?_
                refine r_if_ne (pc := 73) (tgt := 110) hx hb dX9_goesWith_73 (by decide) hf (fun hf => ?_) (fun hf => ?_)
                · exact K13  _ hf (lv_sub hl [1, 2, 4] rfl)
                · refine lv_iload (pc := 76) hx hb dX9_goesWith_76 (lv_at hl 0 rfl) ?_
                  refine lv_iconst (pc := 78) (v := (1 : Int32)) hx hb dX9_goesWith_78 (by decide) ?_
                  obtain ⟨k17, hk17, hf⟩ := lc0_e hf
                  have K17 : ∀  (ls : Array Slot), k17 = some r → lv_has ls 5 [(0, .ref mo_A), (1, .int p1), (3, .int y6), (4, .int v10)] → W p l e (roR 2 43) s m args below meth c s.heap [] 0 0 Q (F0 m 91 ls []) := by
                    intro  ls hf hl
                    rw [hk17] at hf
                    refine lv_iload (pc := 91) hx hb dX9_goesWith_91 (lv_at hl 3 rfl) ?_
                    refine lv_iconst (pc := 93) (v := (2 : Int32)) hx hb dX9_goesWith_93 (by decide) ?_
                    obtain ⟨k19, hk19, hf⟩ := lc0_e hf
                    have K19 : ∀  (ls : Array Slot), k19 = some r → lv_has ls 5 [(0, .ref mo_A), (1, .int p1), (3, .int y6)] → W p l e (roR 2 43) s m args below meth c s.heap [] 0 0 Q (F0 m 106 ls []) := by
                      intro  ls hf hl
                      rw [hk19] at hf
                      refine lv_iconst (pc := 106) (v := (1 : Int32)) hx hb dX9_goesWith_106 (by decide) ?_
                      refine lv_goto (pc := 107) (tgt := 111) hx hb dX9_goesWith_107 (by decide) ?_
                      exact K14 _ _ hf hl
                    refine r_ic_ne (pc := 94) (tgt := 106) hx hb dX9_goesWith_94 (by decide) hf (fun hf => ?_) (fun hf => ?_)
                    · exact K19  _ hf (lv_sub hl [0, 1, 2] rfl)
                    · refine lv_aload_n (pc := 97) hx hb dX9_goesWith_97 rfl (lv_at hl 0 rfl) ?_
                      refine lv_iload_n (pc := 98) hx hb dX9_goesWith_98 rfl (lv_at hl 1 rfl) ?_
                      refine lv_iload_n (pc := 99) hx hb dX9_goesWith_99 rfl (lv_at hl 2 rfl) ?_
                      obtain ⟨v20, hv100, hf⟩ := bd_e hf
                      refine ro_Vi (pc := 100) (As := [.int p1, .int y6]) (rest := []) E (c_X9_areBeside l D cI cJ cZ cS mo_A mo_looks_A mo_period_A mo_shut_A mo_phase_A mo_quarters_A mo_tall_A mo_pairs_A mo_pad_A mo_cuts_A mo_at_A mo_first_A mo_kept_A mo_isKept_A mo_people mo_shots mo_looks mo_bride mo_hands mo_period mo_shut mo_phase mo_flash mo_quarters mo_tired mo_rows mo_columns mo_rise mo_tall mo_pairs mo_pad mo_padMany mo_cuts mo_at mo_first mo_kept mo_isKept mo_keptAt mo_isWriting p1 y6 v20 hv100) F_X9_areBeside rfl rfl tw_1004 tw_1006 tp_42 hP ⟨by decide, by decide⟩ rfl hl.1 (Nat.le_of_ble_eq_true rfl) ⟨by decide, by decide⟩ rfl dX9_goesWith_100 ?_
                      refine r_if_eq (pc := 103) (tgt := 110) hx hb dX9_goesWith_103 (by decide) hf (fun hf => ?_) (fun hf => ?_)
                      · exact K13  _ hf (lv_sub hl [0, 1, 2] rfl)
                      · exact K19  _ hf (lv_sub hl [0, 1, 2] rfl)
                  refine r_ic_ne (pc := 79) (tgt := 91) hx hb dX9_goesWith_79 (by decide) hf (fun hf => ?_) (fun hf => ?_)
                  · exact K17  _ hf (lv_sub hl [1, 2, 4, 0] rfl)
                  · refine lv_aload_n (pc := 82) hx hb dX9_goesWith_82 rfl (lv_at hl 1 rfl) ?_
                    refine lv_iload_n (pc := 83) hx hb dX9_goesWith_83 rfl (lv_at hl 2 rfl) ?_
                    refine lv_iload_n (pc := 84) hx hb dX9_goesWith_84 rfl (lv_at hl 4 rfl) ?_
                    obtain ⟨v18, hv85, hf⟩ := bd_e hf
                    refine ro_Vi (pc := 85) (As := [.int p1, .int y6]) (rest := []) E (c_X9_areBeside l D cI cJ cZ cS mo_A mo_looks_A mo_period_A mo_shut_A mo_phase_A mo_quarters_A mo_tall_A mo_pairs_A mo_pad_A mo_cuts_A mo_at_A mo_first_A mo_kept_A mo_isKept_A mo_people mo_shots mo_looks mo_bride mo_hands mo_period mo_shut mo_phase mo_flash mo_quarters mo_tired mo_rows mo_columns mo_rise mo_tall mo_pairs mo_pad mo_padMany mo_cuts mo_at mo_first mo_kept mo_isKept mo_keptAt mo_isWriting p1 y6 v18 hv85) F_X9_areBeside rfl rfl tw_1004 tw_1006 tp_42 hP ⟨by decide, by decide⟩ rfl hl.1 (Nat.le_of_ble_eq_true rfl) ⟨by decide, by decide⟩ rfl dX9_goesWith_85 ?_
                    refine r_if_ne (pc := 88) (tgt := 110) hx hb dX9_goesWith_88 (by decide) hf (fun hf => ?_) (fun hf => ?_)
                    · exact K13  _ hf (lv_sub hl [1, 2, 4] rfl)
                    · exact K17  _ hf (lv_sub hl [1, 2, 4, 0] rfl)
    exact L21 N _ _ _ hf (lv_sub hl [2, 3, 1, 0] rfl)
  refine r_ic_ge (pc := 10) (tgt := 17) hx hb dX9_goesWith_10 (by decide) hf (fun hf => ?_) (fun hf => ?_)
  · refine lv_iconst (pc := 17) (v := (0 : Int32)) hx hb dX9_goesWith_17 (by decide) ?_
    exact K3 _ _ hf hl
  · refine lv_iconst (pc := 13) (v := (1 : Int32)) hx hb dX9_goesWith_13 (by decide) ?_
    refine lv_goto (pc := 14) (tgt := 18) hx hb dX9_goesWith_14 (by decide) ?_
    exact K3 _ _ hf hl
theorem F_X9_findStandings : CalF yX9_findStandings cX9_findStandings 4 (some .int) 0 := ⟨tw_1015, tw_10, by decide +kernel⟩
set_option maxRecDepth 100000 in
set_option maxHeartbeats 4000000 in
theorem c_X9_findStandings (l : Launch) (D : va_G) (cI cJ cZ cS : ClassId) (N : Nat) (mo_A mo_looks_A mo_period_A mo_shut_A mo_phase_A mo_quarters_A mo_tall_A mo_pairs_A mo_pad_A mo_cuts_A mo_at_A mo_first_A mo_kept_A mo_isKept_A : Nat) (mo_people : Int32) (mo_shots : Int32) (mo_looks : Nat → Int32) (mo_bride : Int32) (mo_hands : Int32) (mo_period : Nat → Int32) (mo_shut : Nat → Int32) (mo_phase : Nat → Int32) (mo_flash : Int32) (mo_quarters : Nat → Int32) (mo_tired : Int32) (mo_rows : Int32) (mo_columns : Int32) (mo_rise : Int32) (mo_tall : Nat → Int32) (mo_pairs : Nat → Int32) (mo_pad : Nat → Int32) (mo_padMany : Int32) (mo_cuts : Nat → Int32) (mo_at : Nat → Int32) (mo_first : Nat → Int32) (mo_kept : Nat → Int32) (mo_isKept : Nat → Int32) (mo_keptAt : Int32) (mo_isWriting : Int32) (sz : Nat) (r : Int32) (r_mo_at : Nat → Int32) (r_mo_first : Nat → Int32) (hf : f_X9_findStandings N mo_people mo_rows mo_columns mo_rise mo_tall mo_pairs mo_at mo_first = some (r, r_mo_at, r_mo_first)) : RwC l D cI cJ cZ cS yX9_findStandings cX9_findStandings 4 (some .int) 3 67 (w_X9 cI cJ cZ cS mo_A mo_looks_A mo_period_A mo_shut_A mo_phase_A mo_quarters_A mo_tall_A mo_pairs_A mo_pad_A mo_cuts_A mo_at_A mo_first_A mo_kept_A mo_isKept_A mo_people mo_shots mo_looks mo_bride mo_hands mo_period mo_shut mo_phase mo_flash mo_quarters mo_tired mo_rows mo_columns mo_rise mo_tall mo_pairs mo_pad mo_padMany mo_cuts mo_at mo_first mo_kept mo_isKept mo_keptAt mo_isWriting) sz [.ref mo_A] (some (.int r)) (w_X9 cI cJ cZ cS mo_A mo_looks_A mo_period_A mo_shut_A mo_phase_A mo_quarters_A mo_tall_A mo_pairs_A mo_pad_A mo_cuts_A mo_at_A mo_first_A mo_kept_A mo_isKept_A mo_people mo_shots mo_looks mo_bride mo_hands mo_period mo_shut mo_phase mo_flash mo_quarters mo_tired mo_rows mo_columns mo_rise mo_tall mo_pairs mo_pad mo_padMany mo_cuts r_mo_at r_mo_first mo_kept mo_isKept mo_keptAt mo_isWriting) := by
  refine rw_in_i (own := RX9) (by decide +kernel) rfl (Nat.le_of_ble_eq_true rfl) ?_
  intro p e s m args below meth c ls Q A E hA hQ hP hD hS hl
  obtain ⟨hx, hb, hml, hown, hts, hK, hN, hAO⟩ := id E
  have hl : lv_has ls 4 [(0, .ref mo_A)] := hl
  unfold f_X9_findStandings at hf
  obtain ⟨H, hH⟩ : ∃ H, H = s.heap := ⟨_, rfl⟩
  obtain ⟨locs, hlocs⟩ : ∃ L : List Loc, L = [] := ⟨_, rfl⟩
  rw [show W p l e (roR 3 67) s m args below meth c s.heap [] 0 0 Q (F0 m 0 ls []) = W p l e (roR 3 67) s m args below meth c H locs 0 0 Q (F0 m 0 ls []) by rw [hH, hlocs]]
  replace hS : va_S A s.heap H locs := by rw [hH, hlocs]; exact hS
  replace hP : va_P D vwCl (w_X9 cI cJ cZ cS mo_A mo_looks_A mo_period_A mo_shut_A mo_phase_A mo_quarters_A mo_tall_A mo_pairs_A mo_pad_A mo_cuts_A mo_at_A mo_first_A mo_kept_A mo_isKept_A mo_people mo_shots mo_looks mo_bride mo_hands mo_period mo_shut mo_phase mo_flash mo_quarters mo_tired mo_rows mo_columns mo_rise mo_tall mo_pairs mo_pad mo_padMany mo_cuts mo_at mo_first mo_kept mo_isKept mo_keptAt mo_isWriting) H := by rw [hH]; exact hP
  clear hH hlocs
  refine lv_iconst (pc := 0) (v := (0 : Int32)) hx hb dX9_findStandings_0 (by decide) ?_
  refine lv_istore_n (pc := 1) (lv' := [(1, .int (0 : Int32)), (0, .ref mo_A)]) hx hb dX9_findStandings_1 rfl hl (by decide) rfl (fun ls hl => ?_)
  refine lv_iconst (pc := 2) (v := (0 : Int32)) hx hb dX9_findStandings_2 (by decide) ?_
  refine lv_istore_n (pc := 3) (lv' := [(2, .int (0 : Int32)), (1, .int (0 : Int32)), (0, .ref mo_A)]) hx hb dX9_findStandings_3 rfl hl (by decide) rfl (fun ls hl => ?_)
  refine lv_aload_n (pc := 4) hx hb dX9_findStandings_4 rfl (lv_at hl 2 rfl) ?_
  refine va_get (pc := 5) (D := D) (ci := 9) (v := .ref mo_at_A) (C := RX9) (T := TX9) (N := 25) hx hb hts inG9 hown hK hP 0 rfl rfl 19 (by decide) (hts _ tw_730) (fun _ h9 => h9) rfl dX9_findStandings_5 ?_
  refine lv_iconst (pc := 8) (v := (0 : Int32)) hx hb dX9_findStandings_8 (by decide) ?_
  refine lv_iconst (pc := 9) (v := (0 : Int32)) hx hb dX9_findStandings_9 (by decide) ?_
  refine r_iast (pc := 10) hx hb hK hP hD hS 10 0 rfl rfl hf dX9_findStandings_10 (fun mo_at_1 H locs hf hP hD hS => ?_)
  have hP : va_P D vwCl (w_X9 cI cJ cZ cS mo_A mo_looks_A mo_period_A mo_shut_A mo_phase_A mo_quarters_A mo_tall_A mo_pairs_A mo_pad_A mo_cuts_A mo_at_A mo_first_A mo_kept_A mo_isKept_A mo_people mo_shots mo_looks mo_bride mo_hands mo_period mo_shut mo_phase mo_flash mo_quarters mo_tired mo_rows mo_columns mo_rise mo_tall mo_pairs mo_pad mo_padMany mo_cuts mo_at_1 mo_first mo_kept mo_isKept mo_keptAt mo_isWriting) H := hP
  have hD : va_D A (w_X9 cI cJ cZ cS mo_A mo_looks_A mo_period_A mo_shut_A mo_phase_A mo_quarters_A mo_tall_A mo_pairs_A mo_pad_A mo_cuts_A mo_at_A mo_first_A mo_kept_A mo_isKept_A mo_people mo_shots mo_looks mo_bride mo_hands mo_period mo_shut mo_phase mo_flash mo_quarters mo_tired mo_rows mo_columns mo_rise mo_tall mo_pairs mo_pad mo_padMany mo_cuts mo_at_1 mo_first mo_kept mo_isKept mo_keptAt mo_isWriting) := hD
  obtain ⟨k7, hk7, hf⟩ := lc3_e hf
  have K7 : ∀ (z8 : Int32) (mo_at_9 : Nat → Int32) (mo_first_10 : Nat → Int32) (H : Heap) (locs : List Loc) (ls : Array Slot), k7 z8 mo_at_9 mo_first_10 = some (r, r_mo_at, r_mo_first) → va_P D vwCl (w_X9 cI cJ cZ cS mo_A mo_looks_A mo_period_A mo_shut_A mo_phase_A mo_quarters_A mo_tall_A mo_pairs_A mo_pad_A mo_cuts_A mo_at_A mo_first_A mo_kept_A mo_isKept_A mo_people mo_shots mo_looks mo_bride mo_hands mo_period mo_shut mo_phase mo_flash mo_quarters mo_tired mo_rows mo_columns mo_rise mo_tall mo_pairs mo_pad mo_padMany mo_cuts mo_at_9 mo_first_10 mo_kept mo_isKept mo_keptAt mo_isWriting) H → va_D A (w_X9 cI cJ cZ cS mo_A mo_looks_A mo_period_A mo_shut_A mo_phase_A mo_quarters_A mo_tall_A mo_pairs_A mo_pad_A mo_cuts_A mo_at_A mo_first_A mo_kept_A mo_isKept_A mo_people mo_shots mo_looks mo_bride mo_hands mo_period mo_shut mo_phase mo_flash mo_quarters mo_tired mo_rows mo_columns mo_rise mo_tall mo_pairs mo_pad mo_padMany mo_cuts mo_at_9 mo_first_10 mo_kept mo_isKept mo_keptAt mo_isWriting) → va_S A s.heap H locs → lv_has ls 4 [(1, .int z8)] → W p l e (roR 3 67) s m args below meth c H locs 0 0 Q (F0 m 140 ls []) := by
    intro z8 mo_at_9 mo_first_10 H locs ls hf hP hD hS hl
    rw [hk7] at hf
    refine lv_iload_n (pc := 140) hx hb dX9_findStandings_140 rfl (lv_at hl 0 rfl) ?_
    cases hf
    exact hQ _ _ _ _ _ dX9_findStandings_141 rfl hP hD hS
  have L11 : ∀ (n : Nat), ∀ (y2 : Int32) (y3 : Int32) (mo_at_4 : Nat → Int32) (mo_first_5 : Nat → Int32) (H : Heap) (locs : List Loc) (ls : Array Slot), f_X9_findStandings_L11 mo_people mo_rows mo_columns mo_rise mo_tall mo_pairs N k7 n y2 y3 mo_at_4 mo_first_5 = some (r, r_mo_at, r_mo_first) → va_P D vwCl (w_X9 cI cJ cZ cS mo_A mo_looks_A mo_period_A mo_shut_A mo_phase_A mo_quarters_A mo_tall_A mo_pairs_A mo_pad_A mo_cuts_A mo_at_A mo_first_A mo_kept_A mo_isKept_A mo_people mo_shots mo_looks mo_bride mo_hands mo_period mo_shut mo_phase mo_flash mo_quarters mo_tired mo_rows mo_columns mo_rise mo_tall mo_pairs mo_pad mo_padMany mo_cuts mo_at_4 mo_first_5 mo_kept mo_isKept mo_keptAt mo_isWriting) H → va_D A (w_X9 cI cJ cZ cS mo_A mo_looks_A mo_period_A mo_shut_A mo_phase_A mo_quarters_A mo_tall_A mo_pairs_A mo_pad_A mo_cuts_A mo_at_A mo_first_A mo_kept_A mo_isKept_A mo_people mo_shots mo_looks mo_bride mo_hands mo_period mo_shut mo_phase mo_flash mo_quarters mo_tired mo_rows mo_columns mo_rise mo_tall mo_pairs mo_pad mo_padMany mo_cuts mo_at_4 mo_first_5 mo_kept mo_isKept mo_keptAt mo_isWriting) → va_S A s.heap H locs → lv_has ls 4 [(0, .ref mo_A), (1, .int y2), (2, .int y3)] → W p l e (roR 3 67) s m args below meth c H locs 0 0 Q (F0 m 11 ls []) := by
    intro n
    induction n with
    | zero =>
      intro y2 y3 mo_at_4 mo_first_5 H locs ls hf
      rw [f_X9_findStandings_L11] at hf
      cases hf
    | succ n ih =>
      intro y2 y3 mo_at_4 mo_first_5 H locs ls hf hP hD hS hl
      rw [f_X9_findStandings_L11] at hf
      refine lv_iload_n (pc := 11) hx hb dX9_findStandings_11 rfl (lv_at hl 2 rfl) ?_
      refine r_if_lt (pc := 12) (tgt := 140) hx hb dX9_findStandings_12 (by decide) hf (fun hf => ?_) (fun hf => ?_)
      · exact K7 _ _ _ _ _ _ hf hP hD hS (lv_sub hl [1] rfl)
      · refine lv_aload_n (pc := 15) hx hb dX9_findStandings_15 rfl (lv_at hl 0 rfl) ?_
        refine va_get (pc := 16) (D := D) (ci := 9) (v := .ref mo_at_A) (C := RX9) (T := TX9) (N := 25) hx hb hts inG9 hown hK hP 0 rfl rfl 19 (by decide) (hts _ tw_730) (fun _ h9 => h9) rfl dX9_findStandings_16 ?_
        refine lv_iload_n (pc := 19) hx hb dX9_findStandings_19 rfl (lv_at hl 2 rfl) ?_
        refine r_iald (pc := 20) hx hb hK hP 10 0 rfl rfl hf dX9_findStandings_20 (fun v11 hf => ?_)
        refine lv_aload_n (pc := 21) hx hb dX9_findStandings_21 rfl (lv_at hl 0 rfl) ?_
        obtain ⟨v12, hv22, hf⟩ := bd_e hf
        refine ro_Vi (pc := 22) (As := []) (rest := [.int v11]) E (c_X9_places l D cI cJ cZ cS mo_A mo_looks_A mo_period_A mo_shut_A mo_phase_A mo_quarters_A mo_tall_A mo_pairs_A mo_pad_A mo_cuts_A mo_at_A mo_first_A mo_kept_A mo_isKept_A mo_people mo_shots mo_looks mo_bride mo_hands mo_period mo_shut mo_phase mo_flash mo_quarters mo_tired mo_rows mo_columns mo_rise mo_tall mo_pairs mo_pad mo_padMany mo_cuts mo_at_4 mo_first_5 mo_kept mo_isKept mo_keptAt mo_isWriting v12 hv22) F_X9_places rfl rfl tw_829 tw_831 tp_25 hP ⟨by decide, by decide⟩ rfl hl.1 (Nat.le_of_ble_eq_true rfl) ⟨by decide, by decide⟩ rfl dX9_findStandings_22 ?_
        refine r_ic_lt (pc := 25) (tgt := 48) hx hb dX9_findStandings_25 (by decide) hf (fun hf => ?_) (fun hf => ?_)
        · refine lv_aload_n (pc := 48) hx hb dX9_findStandings_48 rfl (lv_at hl 0 rfl) ?_
          refine lv_iload_n (pc := 49) hx hb dX9_findStandings_49 rfl (lv_at hl 2 rfl) ?_
          obtain ⟨v13, hv50, hf⟩ := bd_e hf
          refine ro_Vi (pc := 50) (As := [.int y3]) (rest := []) E (c_X9_goesWith l D cI cJ cZ cS N mo_A mo_looks_A mo_period_A mo_shut_A mo_phase_A mo_quarters_A mo_tall_A mo_pairs_A mo_pad_A mo_cuts_A mo_at_A mo_first_A mo_kept_A mo_isKept_A mo_people mo_shots mo_looks mo_bride mo_hands mo_period mo_shut mo_phase mo_flash mo_quarters mo_tired mo_rows mo_columns mo_rise mo_tall mo_pairs mo_pad mo_padMany mo_cuts mo_at_4 mo_first_5 mo_kept mo_isKept mo_keptAt mo_isWriting y3 v13 hv50) F_X9_goesWith rfl rfl tw_1016 tw_1018 tp_44 hP ⟨by decide, by decide⟩ rfl hl.1 (Nat.le_of_ble_eq_true rfl) ⟨by decide, by decide⟩ rfl dX9_findStandings_50 ?_
          refine r_if_ne (pc := 53) (tgt := 69) hx hb dX9_findStandings_53 (by decide) hf (fun hf => ?_) (fun hf => ?_)
          · refine lv_iload_n (pc := 69) hx hb dX9_findStandings_69 rfl (lv_at hl 2 rfl) ?_
            refine lv_aload_n (pc := 70) hx hb dX9_findStandings_70 rfl (lv_at hl 0 rfl) ?_
            refine va_get (pc := 71) (D := D) (ci := 9) (v := .int mo_people) (C := RX9) (T := TX9) (N := 25) hx hb hts inG9 hown hK hP 0 rfl rfl 0 (by decide) (hts _ tw_711) (fun _ h9 => h9) rfl dX9_findStandings_71 ?_
            refine lv_iconst (pc := 74) (v := (1 : Int32)) hx hb dX9_findStandings_74 (by decide) ?_
            refine lv_isub (pc := 75) hx hb dX9_findStandings_75 ?_
            refine r_ic_ge (pc := 76) (tgt := 92) hx hb dX9_findStandings_76 (by decide) hf (fun hf => ?_) (fun hf => ?_)
            · refine lv_iconst (pc := 92) (v := (0 : Int32)) hx hb dX9_findStandings_92 (by decide) ?_
              refine lv_istore_n (pc := 93) (lv' := [(3, .int (0 : Int32)), (0, .ref mo_A), (1, .int y2), (2, .int y3)]) hx hb dX9_findStandings_93 rfl hl (by decide) rfl (fun ls hl => ?_)
              obtain ⟨k17, hk17, hf⟩ := lc1_e hf
              have K17 : ∀ (mo_first_18 : Nat → Int32) (H : Heap) (locs : List Loc) (ls : Array Slot), k17 mo_first_18 = some (r, r_mo_at, r_mo_first) → va_P D vwCl (w_X9 cI cJ cZ cS mo_A mo_looks_A mo_period_A mo_shut_A mo_phase_A mo_quarters_A mo_tall_A mo_pairs_A mo_pad_A mo_cuts_A mo_at_A mo_first_A mo_kept_A mo_isKept_A mo_people mo_shots mo_looks mo_bride mo_hands mo_period mo_shut mo_phase mo_flash mo_quarters mo_tired mo_rows mo_columns mo_rise mo_tall mo_pairs mo_pad mo_padMany mo_cuts mo_at_4 mo_first_18 mo_kept mo_isKept mo_keptAt mo_isWriting) H → va_D A (w_X9 cI cJ cZ cS mo_A mo_looks_A mo_period_A mo_shut_A mo_phase_A mo_quarters_A mo_tall_A mo_pairs_A mo_pad_A mo_cuts_A mo_at_A mo_first_A mo_kept_A mo_isKept_A mo_people mo_shots mo_looks mo_bride mo_hands mo_period mo_shut mo_phase mo_flash mo_quarters mo_tired mo_rows mo_columns mo_rise mo_tall mo_pairs mo_pad mo_padMany mo_cuts mo_at_4 mo_first_18 mo_kept mo_isKept mo_keptAt mo_isWriting) → va_S A s.heap H locs → lv_has ls 4 [(0, .ref mo_A), (1, .int y2), (2, .int y3)] → W p l e (roR 3 67) s m args below meth c H locs 0 0 Q (F0 m 124 ls []) := by
                intro mo_first_18 H locs ls hf hP hD hS hl
                rw [hk17] at hf
                refine lv_iinc (pc := 124) (v := (y2 + (1 : Int32))) (lv' := [(1, .int (y2 + (1 : Int32))), (0, .ref mo_A), (2, .int y3)]) hx hb dX9_findStandings_124 hl (k := 1) rfl (by rfl) (by decide) rfl (fun ls hl => ?_)
                refine lv_aload_n (pc := 127) hx hb dX9_findStandings_127 rfl (lv_at hl 1 rfl) ?_
                refine va_get (pc := 128) (D := D) (ci := 9) (v := .ref mo_at_A) (C := RX9) (T := TX9) (N := 25) hx hb hts inG9 hown hK hP 0 rfl rfl 19 (by decide) (hts _ tw_730) (fun _ h9 => h9) rfl dX9_findStandings_128 ?_
                refine lv_iload_n (pc := 131) hx hb dX9_findStandings_131 rfl (lv_at hl 2 rfl) ?_
                refine lv_dup2_11 (pc := 132) hx hb dX9_findStandings_132 rfl rfl ?_
                refine r_iald (pc := 133) hx hb hK hP 10 0 rfl rfl hf dX9_findStandings_133 (fun v21 hf => ?_)
                refine lv_iconst (pc := 134) (v := (1 : Int32)) hx hb dX9_findStandings_134 (by decide) ?_
                refine lv_iadd (pc := 135) hx hb dX9_findStandings_135 ?_
                refine r_iast (pc := 136) hx hb hK hP hD hS 10 0 rfl rfl hf dX9_findStandings_136 (fun mo_at_22 H locs hf hP hD hS => ?_)
                have hP : va_P D vwCl (w_X9 cI cJ cZ cS mo_A mo_looks_A mo_period_A mo_shut_A mo_phase_A mo_quarters_A mo_tall_A mo_pairs_A mo_pad_A mo_cuts_A mo_at_A mo_first_A mo_kept_A mo_isKept_A mo_people mo_shots mo_looks mo_bride mo_hands mo_period mo_shut mo_phase mo_flash mo_quarters mo_tired mo_rows mo_columns mo_rise mo_tall mo_pairs mo_pad mo_padMany mo_cuts mo_at_22 mo_first_18 mo_kept mo_isKept mo_keptAt mo_isWriting) H := hP
                have hD : va_D A (w_X9 cI cJ cZ cS mo_A mo_looks_A mo_period_A mo_shut_A mo_phase_A mo_quarters_A mo_tall_A mo_pairs_A mo_pad_A mo_cuts_A mo_at_A mo_first_A mo_kept_A mo_isKept_A mo_people mo_shots mo_looks mo_bride mo_hands mo_period mo_shut mo_phase mo_flash mo_quarters mo_tired mo_rows mo_columns mo_rise mo_tall mo_pairs mo_pad mo_padMany mo_cuts mo_at_22 mo_first_18 mo_kept mo_isKept mo_keptAt mo_isWriting) := hD
                refine lv_goto (pc := 137) (tgt := 11) hx hb dX9_findStandings_137 (by decide) ?_
                exact ih _ _ _ _ _ _ _ hf hP hD hS (lv_sub hl [1, 0, 2] rfl)
              have L94 : ∀ (n : Nat), ∀ (y14 : Int32) (mo_first_15 : Nat → Int32) (H : Heap) (locs : List Loc) (ls : Array Slot), f_X9_findStandings_L94 mo_people y2 mo_at_4 k17 n y14 mo_first_15 = some (r, r_mo_at, r_mo_first) → va_P D vwCl (w_X9 cI cJ cZ cS mo_A mo_looks_A mo_period_A mo_shut_A mo_phase_A mo_quarters_A mo_tall_A mo_pairs_A mo_pad_A mo_cuts_A mo_at_A mo_first_A mo_kept_A mo_isKept_A mo_people mo_shots mo_looks mo_bride mo_hands mo_period mo_shut mo_phase mo_flash mo_quarters mo_tired mo_rows mo_columns mo_rise mo_tall mo_pairs mo_pad mo_padMany mo_cuts mo_at_4 mo_first_15 mo_kept mo_isKept mo_keptAt mo_isWriting) H → va_D A (w_X9 cI cJ cZ cS mo_A mo_looks_A mo_period_A mo_shut_A mo_phase_A mo_quarters_A mo_tall_A mo_pairs_A mo_pad_A mo_cuts_A mo_at_A mo_first_A mo_kept_A mo_isKept_A mo_people mo_shots mo_looks mo_bride mo_hands mo_period mo_shut mo_phase mo_flash mo_quarters mo_tired mo_rows mo_columns mo_rise mo_tall mo_pairs mo_pad mo_padMany mo_cuts mo_at_4 mo_first_15 mo_kept mo_isKept mo_keptAt mo_isWriting) → va_S A s.heap H locs → lv_has ls 4 [(0, .ref mo_A), (1, .int y2), (2, .int y3), (3, .int y14)] → W p l e (roR 3 67) s m args below meth c H locs 0 0 Q (F0 m 94 ls []) := by
                intro n
                induction n with
                | zero =>
                  intro y14 mo_first_15 H locs ls hf
                  rw [f_X9_findStandings_L94] at hf
                  cases hf
                | succ n ih =>
                  intro y14 mo_first_15 H locs ls hf hP hD hS hl
                  rw [f_X9_findStandings_L94] at hf
                  refine lv_iload_n (pc := 94) hx hb dX9_findStandings_94 rfl (lv_at hl 3 rfl) ?_
                  refine lv_aload_n (pc := 95) hx hb dX9_findStandings_95 rfl (lv_at hl 0 rfl) ?_
                  refine va_get (pc := 96) (D := D) (ci := 9) (v := .int mo_people) (C := RX9) (T := TX9) (N := 25) hx hb hts inG9 hown hK hP 0 rfl rfl 0 (by decide) (hts _ tw_711) (fun _ h9 => h9) rfl dX9_findStandings_96 ?_
                  refine r_ic_ge (pc := 99) (tgt := 124) hx hb dX9_findStandings_99 (by decide) hf (fun hf => ?_) (fun hf => ?_)
                  · exact K17 _ _ _ _ hf hP hD hS (lv_sub hl [0, 1, 2] rfl)
                  · refine lv_iload_n (pc := 102) hx hb dX9_findStandings_102 rfl (lv_at hl 1 rfl) ?_
                    refine r_if_ne (pc := 103) (tgt := 124) hx hb dX9_findStandings_103 (by decide) hf (fun hf => ?_) (fun hf => ?_)
                    · exact K17 _ _ _ _ hf hP hD hS (lv_sub hl [0, 1, 2] rfl)
                    · refine lv_aload_n (pc := 106) hx hb dX9_findStandings_106 rfl (lv_at hl 0 rfl) ?_
                      refine va_get (pc := 107) (D := D) (ci := 9) (v := .ref mo_first_A) (C := RX9) (T := TX9) (N := 25) hx hb hts inG9 hown hK hP 0 rfl rfl 20 (by decide) (hts _ tw_731) (fun _ h9 => h9) rfl dX9_findStandings_107 ?_
                      refine lv_iload_n (pc := 110) hx hb dX9_findStandings_110 rfl (lv_at hl 3 rfl) ?_
                      refine lv_aload_n (pc := 111) hx hb dX9_findStandings_111 rfl (lv_at hl 0 rfl) ?_
                      refine va_get (pc := 112) (D := D) (ci := 9) (v := .ref mo_at_A) (C := RX9) (T := TX9) (N := 25) hx hb hts inG9 hown hK hP 0 rfl rfl 19 (by decide) (hts _ tw_730) (fun _ h9 => h9) rfl dX9_findStandings_112 ?_
                      refine lv_iload_n (pc := 115) hx hb dX9_findStandings_115 rfl (lv_at hl 3 rfl) ?_
                      refine r_iald (pc := 116) hx hb hK hP 10 0 rfl rfl hf dX9_findStandings_116 (fun v19 hf => ?_)
                      refine r_iast (pc := 117) hx hb hK hP hD hS 11 0 rfl rfl hf dX9_findStandings_117 (fun mo_first_20 H locs hf hP hD hS => ?_)
                      have hP : va_P D vwCl (w_X9 cI cJ cZ cS mo_A mo_looks_A mo_period_A mo_shut_A mo_phase_A mo_quarters_A mo_tall_A mo_pairs_A mo_pad_A mo_cuts_A mo_at_A mo_first_A mo_kept_A mo_isKept_A mo_people mo_shots mo_looks mo_bride mo_hands mo_period mo_shut mo_phase mo_flash mo_quarters mo_tired mo_rows mo_columns mo_rise mo_tall mo_pairs mo_pad mo_padMany mo_cuts mo_at_4 mo_first_20 mo_kept mo_isKept mo_keptAt mo_isWriting) H := hP
                      have hD : va_D A (w_X9 cI cJ cZ cS mo_A mo_looks_A mo_period_A mo_shut_A mo_phase_A mo_quarters_A mo_tall_A mo_pairs_A mo_pad_A mo_cuts_A mo_at_A mo_first_A mo_kept_A mo_isKept_A mo_people mo_shots mo_looks mo_bride mo_hands mo_period mo_shut mo_phase mo_flash mo_quarters mo_tired mo_rows mo_columns mo_rise mo_tall mo_pairs mo_pad mo_padMany mo_cuts mo_at_4 mo_first_20 mo_kept mo_isKept mo_keptAt mo_isWriting) := hD
                      refine lv_iinc (pc := 118) (v := (y14 + (1 : Int32))) (lv' := [(3, .int (y14 + (1 : Int32))), (0, .ref mo_A), (1, .int y2), (2, .int y3)]) hx hb dX9_findStandings_118 hl (k := 3) rfl (by rfl) (by decide) rfl (fun ls hl => ?_)
                      refine lv_goto (pc := 121) (tgt := 94) hx hb dX9_findStandings_121 (by decide) ?_
                      exact ih _ _ _ _ _ hf hP hD hS (lv_sub hl [1, 2, 3, 0] rfl)
              exact L94 N _ _ _ _ _ hf hP hD hS (lv_sub hl [1, 2, 3, 0] rfl)
            · refine lv_iinc (pc := 79) (v := (y3 + (1 : Int32))) (lv' := [(2, .int (y3 + (1 : Int32))), (0, .ref mo_A), (1, .int y2)]) hx hb dX9_findStandings_79 hl (k := 2) rfl (by rfl) (by decide) rfl (fun ls hl => ?_)
              refine lv_aload_n (pc := 82) hx hb dX9_findStandings_82 rfl (lv_at hl 1 rfl) ?_
              refine va_get (pc := 83) (D := D) (ci := 9) (v := .ref mo_at_A) (C := RX9) (T := TX9) (N := 25) hx hb hts inG9 hown hK hP 0 rfl rfl 19 (by decide) (hts _ tw_730) (fun _ h9 => h9) rfl dX9_findStandings_83 ?_
              refine lv_iload_n (pc := 86) hx hb dX9_findStandings_86 rfl (lv_at hl 0 rfl) ?_
              refine lv_iconst (pc := 87) (v := (0 : Int32)) hx hb dX9_findStandings_87 (by decide) ?_
              refine r_iast (pc := 88) hx hb hK hP hD hS 10 0 rfl rfl hf dX9_findStandings_88 (fun mo_at_23 H locs hf hP hD hS => ?_)
              have hP : va_P D vwCl (w_X9 cI cJ cZ cS mo_A mo_looks_A mo_period_A mo_shut_A mo_phase_A mo_quarters_A mo_tall_A mo_pairs_A mo_pad_A mo_cuts_A mo_at_A mo_first_A mo_kept_A mo_isKept_A mo_people mo_shots mo_looks mo_bride mo_hands mo_period mo_shut mo_phase mo_flash mo_quarters mo_tired mo_rows mo_columns mo_rise mo_tall mo_pairs mo_pad mo_padMany mo_cuts mo_at_23 mo_first_5 mo_kept mo_isKept mo_keptAt mo_isWriting) H := hP
              have hD : va_D A (w_X9 cI cJ cZ cS mo_A mo_looks_A mo_period_A mo_shut_A mo_phase_A mo_quarters_A mo_tall_A mo_pairs_A mo_pad_A mo_cuts_A mo_at_A mo_first_A mo_kept_A mo_isKept_A mo_people mo_shots mo_looks mo_bride mo_hands mo_period mo_shut mo_phase mo_flash mo_quarters mo_tired mo_rows mo_columns mo_rise mo_tall mo_pairs mo_pad mo_padMany mo_cuts mo_at_23 mo_first_5 mo_kept mo_isKept mo_keptAt mo_isWriting) := hD
              refine lv_goto (pc := 89) (tgt := 11) hx hb dX9_findStandings_89 (by decide) ?_
              exact ih _ _ _ _ _ _ _ hf hP hD hS (lv_sub hl [1, 2, 0] rfl)
          · refine lv_aload_n (pc := 56) hx hb dX9_findStandings_56 rfl (lv_at hl 0 rfl) ?_
            refine va_get (pc := 57) (D := D) (ci := 9) (v := .ref mo_at_A) (C := RX9) (T := TX9) (N := 25) hx hb hts inG9 hown hK hP 0 rfl rfl 19 (by decide) (hts _ tw_730) (fun _ h9 => h9) rfl dX9_findStandings_57 ?_
            refine lv_iload_n (pc := 60) hx hb dX9_findStandings_60 rfl (lv_at hl 2 rfl) ?_
            refine lv_dup2_11 (pc := 61) hx hb dX9_findStandings_61 rfl rfl ?_
            refine r_iald (pc := 62) hx hb hK hP 10 0 rfl rfl hf dX9_findStandings_62 (fun v24 hf => ?_)
            refine lv_iconst (pc := 63) (v := (1 : Int32)) hx hb dX9_findStandings_63 (by decide) ?_
            refine lv_iadd (pc := 64) hx hb dX9_findStandings_64 ?_
            refine r_iast (pc := 65) hx hb hK hP hD hS 10 0 rfl rfl hf dX9_findStandings_65 (fun mo_at_25 H locs hf hP hD hS => ?_)
            have hP : va_P D vwCl (w_X9 cI cJ cZ cS mo_A mo_looks_A mo_period_A mo_shut_A mo_phase_A mo_quarters_A mo_tall_A mo_pairs_A mo_pad_A mo_cuts_A mo_at_A mo_first_A mo_kept_A mo_isKept_A mo_people mo_shots mo_looks mo_bride mo_hands mo_period mo_shut mo_phase mo_flash mo_quarters mo_tired mo_rows mo_columns mo_rise mo_tall mo_pairs mo_pad mo_padMany mo_cuts mo_at_25 mo_first_5 mo_kept mo_isKept mo_keptAt mo_isWriting) H := hP
            have hD : va_D A (w_X9 cI cJ cZ cS mo_A mo_looks_A mo_period_A mo_shut_A mo_phase_A mo_quarters_A mo_tall_A mo_pairs_A mo_pad_A mo_cuts_A mo_at_A mo_first_A mo_kept_A mo_isKept_A mo_people mo_shots mo_looks mo_bride mo_hands mo_period mo_shut mo_phase mo_flash mo_quarters mo_tired mo_rows mo_columns mo_rise mo_tall mo_pairs mo_pad mo_padMany mo_cuts mo_at_25 mo_first_5 mo_kept mo_isKept mo_keptAt mo_isWriting) := hD
            refine lv_goto (pc := 66) (tgt := 11) hx hb dX9_findStandings_66 (by decide) ?_
            exact ih _ _ _ _ _ _ _ hf hP hD hS hl
        · refine lv_iinc (pc := 28) (v := (y3 + (-1 : Int32))) (lv' := [(2, .int (y3 + (-1 : Int32))), (0, .ref mo_A), (1, .int y2)]) hx hb dX9_findStandings_28 hl (k := 2) rfl (by rfl) (by decide) rfl (fun ls hl => ?_)
          refine lv_iload_n (pc := 31) hx hb dX9_findStandings_31 rfl (lv_at hl 0 rfl) ?_
          refine r_if_lt (pc := 32) (tgt := 11) hx hb dX9_findStandings_32 (by decide) hf (fun hf => ?_) (fun hf => ?_)
          · exact ih _ _ _ _ _ _ _ hf hP hD hS (lv_sub hl [1, 2, 0] rfl)
          · refine lv_aload_n (pc := 35) hx hb dX9_findStandings_35 rfl (lv_at hl 1 rfl) ?_
            refine va_get (pc := 36) (D := D) (ci := 9) (v := .ref mo_at_A) (C := RX9) (T := TX9) (N := 25) hx hb hts inG9 hown hK hP 0 rfl rfl 19 (by decide) (hts _ tw_730) (fun _ h9 => h9) rfl dX9_findStandings_36 ?_
            refine lv_iload_n (pc := 39) hx hb dX9_findStandings_39 rfl (lv_at hl 0 rfl) ?_
            refine lv_dup2_11 (pc := 40) hx hb dX9_findStandings_40 rfl rfl ?_
            refine r_iald (pc := 41) hx hb hK hP 10 0 rfl rfl hf dX9_findStandings_41 (fun v26 hf => ?_)
            refine lv_iconst (pc := 42) (v := (1 : Int32)) hx hb dX9_findStandings_42 (by decide) ?_
            refine lv_iadd (pc := 43) hx hb dX9_findStandings_43 ?_
            refine r_iast (pc := 44) hx hb hK hP hD hS 10 0 rfl rfl hf dX9_findStandings_44 (fun mo_at_27 H locs hf hP hD hS => ?_)
            have hP : va_P D vwCl (w_X9 cI cJ cZ cS mo_A mo_looks_A mo_period_A mo_shut_A mo_phase_A mo_quarters_A mo_tall_A mo_pairs_A mo_pad_A mo_cuts_A mo_at_A mo_first_A mo_kept_A mo_isKept_A mo_people mo_shots mo_looks mo_bride mo_hands mo_period mo_shut mo_phase mo_flash mo_quarters mo_tired mo_rows mo_columns mo_rise mo_tall mo_pairs mo_pad mo_padMany mo_cuts mo_at_27 mo_first_5 mo_kept mo_isKept mo_keptAt mo_isWriting) H := hP
            have hD : va_D A (w_X9 cI cJ cZ cS mo_A mo_looks_A mo_period_A mo_shut_A mo_phase_A mo_quarters_A mo_tall_A mo_pairs_A mo_pad_A mo_cuts_A mo_at_A mo_first_A mo_kept_A mo_isKept_A mo_people mo_shots mo_looks mo_bride mo_hands mo_period mo_shut mo_phase mo_flash mo_quarters mo_tired mo_rows mo_columns mo_rise mo_tall mo_pairs mo_pad mo_padMany mo_cuts mo_at_27 mo_first_5 mo_kept mo_isKept mo_keptAt mo_isWriting) := hD
            refine lv_goto (pc := 45) (tgt := 11) hx hb dX9_findStandings_45 (by decide) ?_
            exact ih _ _ _ _ _ _ _ hf hP hD hS (lv_sub hl [1, 2, 0] rfl)
  exact L11 N _ _ _ _ _ _ _ hf hP hD hS (lv_sub hl [2, 1, 0] rfl)
theorem F_X9_placed : CalF yX9_placed cX9_placed 3 (some .int) 1 := ⟨tw_1011, tw_10, by decide +kernel⟩
set_option maxRecDepth 100000 in
set_option maxHeartbeats 4000000 in
theorem c_X9_placed (l : Launch) (D : va_G) (cI cJ cZ cS : ClassId) (N : Nat) (mo_A mo_looks_A mo_period_A mo_shut_A mo_phase_A mo_quarters_A mo_tall_A mo_pairs_A mo_pad_A mo_cuts_A mo_at_A mo_first_A mo_kept_A mo_isKept_A : Nat) (mo_people : Int32) (mo_shots : Int32) (mo_looks : Nat → Int32) (mo_bride : Int32) (mo_hands : Int32) (mo_period : Nat → Int32) (mo_shut : Nat → Int32) (mo_phase : Nat → Int32) (mo_flash : Int32) (mo_quarters : Nat → Int32) (mo_tired : Int32) (mo_rows : Int32) (mo_columns : Int32) (mo_rise : Int32) (mo_tall : Nat → Int32) (mo_pairs : Nat → Int32) (mo_pad : Nat → Int32) (mo_padMany : Int32) (mo_cuts : Nat → Int32) (mo_at : Nat → Int32) (mo_first : Nat → Int32) (mo_kept : Nat → Int32) (mo_isKept : Nat → Int32) (mo_keptAt : Int32) (mo_isWriting : Int32) (p1 : Int32) (sz : Nat) (r : Int32) (r_mo_at : Nat → Int32) (r_mo_first : Nat → Int32) (hf : f_X9_placed N mo_people mo_rows mo_columns mo_rise mo_tall mo_pairs mo_at mo_first p1 = some (r, r_mo_at, r_mo_first)) : RwC l D cI cJ cZ cS yX9_placed cX9_placed 3 (some .int) 4 90 (w_X9 cI cJ cZ cS mo_A mo_looks_A mo_period_A mo_shut_A mo_phase_A mo_quarters_A mo_tall_A mo_pairs_A mo_pad_A mo_cuts_A mo_at_A mo_first_A mo_kept_A mo_isKept_A mo_people mo_shots mo_looks mo_bride mo_hands mo_period mo_shut mo_phase mo_flash mo_quarters mo_tired mo_rows mo_columns mo_rise mo_tall mo_pairs mo_pad mo_padMany mo_cuts mo_at mo_first mo_kept mo_isKept mo_keptAt mo_isWriting) sz [.ref mo_A, .int p1] (some (.int r)) (w_X9 cI cJ cZ cS mo_A mo_looks_A mo_period_A mo_shut_A mo_phase_A mo_quarters_A mo_tall_A mo_pairs_A mo_pad_A mo_cuts_A mo_at_A mo_first_A mo_kept_A mo_isKept_A mo_people mo_shots mo_looks mo_bride mo_hands mo_period mo_shut mo_phase mo_flash mo_quarters mo_tired mo_rows mo_columns mo_rise mo_tall mo_pairs mo_pad mo_padMany mo_cuts r_mo_at r_mo_first mo_kept mo_isKept mo_keptAt mo_isWriting) := by
  refine rw_in_i (own := RX9) (by decide +kernel) rfl (Nat.le_of_ble_eq_true rfl) ?_
  intro p e s m args below meth c ls Q A E hA hQ hP hD hS hl
  obtain ⟨hx, hb, hml, hown, hts, hK, hN, hAO⟩ := id E
  have hl : lv_has ls 3 [(0, .ref mo_A), (1, .int p1)] := hl
  unfold f_X9_placed at hf
  obtain ⟨H, hH⟩ : ∃ H, H = s.heap := ⟨_, rfl⟩
  obtain ⟨locs, hlocs⟩ : ∃ L : List Loc, L = [] := ⟨_, rfl⟩
  rw [show W p l e (roR 4 90) s m args below meth c s.heap [] 0 0 Q (F0 m 0 ls []) = W p l e (roR 4 90) s m args below meth c H locs 0 0 Q (F0 m 0 ls []) by rw [hH, hlocs]]
  replace hS : va_S A s.heap H locs := by rw [hH, hlocs]; exact hS
  replace hP : va_P D vwCl (w_X9 cI cJ cZ cS mo_A mo_looks_A mo_period_A mo_shut_A mo_phase_A mo_quarters_A mo_tall_A mo_pairs_A mo_pad_A mo_cuts_A mo_at_A mo_first_A mo_kept_A mo_isKept_A mo_people mo_shots mo_looks mo_bride mo_hands mo_period mo_shut mo_phase mo_flash mo_quarters mo_tired mo_rows mo_columns mo_rise mo_tall mo_pairs mo_pad mo_padMany mo_cuts mo_at mo_first mo_kept mo_isKept mo_keptAt mo_isWriting) H := by rw [hH]; exact hP
  clear hH hlocs
  refine lv_aload_n (pc := 0) hx hb dX9_placed_0 rfl (lv_at hl 0 rfl) ?_
  refine va_get (pc := 1) (D := D) (ci := 9) (v := .int mo_people) (C := RX9) (T := TX9) (N := 25) hx hb hts inG9 hown hK hP 0 rfl rfl 0 (by decide) (hts _ tw_711) (fun _ h9 => h9) rfl dX9_placed_1 ?_
  refine lv_aload_n (pc := 4) hx hb dX9_placed_4 rfl (lv_at hl 0 rfl) ?_
  obtain ⟨v1, hv5, hf⟩ := bd_e hf
  refine ro_Vi (pc := 5) (As := []) (rest := [.int mo_people]) E (c_X9_places l D cI cJ cZ cS mo_A mo_looks_A mo_period_A mo_shut_A mo_phase_A mo_quarters_A mo_tall_A mo_pairs_A mo_pad_A mo_cuts_A mo_at_A mo_first_A mo_kept_A mo_isKept_A mo_people mo_shots mo_looks mo_bride mo_hands mo_period mo_shut mo_phase mo_flash mo_quarters mo_tired mo_rows mo_columns mo_rise mo_tall mo_pairs mo_pad mo_padMany mo_cuts mo_at mo_first mo_kept mo_isKept mo_keptAt mo_isWriting v1 hv5) F_X9_places rfl rfl tw_829 tw_831 tp_25 hP ⟨by decide, by decide⟩ rfl hl.1 (Nat.le_of_ble_eq_true rfl) ⟨by decide, by decide⟩ rfl dX9_placed_5 ?_
  refine r_ic_le (pc := 8) (tgt := 14) hx hb dX9_placed_8 (by decide) hf (fun hf => ?_) (fun hf => ?_)
  · refine lv_aload_n (pc := 14) hx hb dX9_placed_14 rfl (lv_at hl 0 rfl) ?_
    obtain ⟨⟨v2, mo_at_3, mo_first_4⟩, hv15, hf⟩ := bd_e hf
    refine rw_Vi (pc := 15) (As := []) (rest := []) (wr := []) (wn := (w_X9 cI cJ cZ cS mo_A mo_looks_A mo_period_A mo_shut_A mo_phase_A mo_quarters_A mo_tall_A mo_pairs_A mo_pad_A mo_cuts_A mo_at_A mo_first_A mo_kept_A mo_isKept_A mo_people mo_shots mo_looks mo_bride mo_hands mo_period mo_shut mo_phase mo_flash mo_quarters mo_tired mo_rows mo_columns mo_rise mo_tall mo_pairs mo_pad mo_padMany mo_cuts mo_at_3 mo_first_4 mo_kept mo_isKept mo_keptAt mo_isWriting)) E (c_X9_findStandings l D cI cJ cZ cS N mo_A mo_looks_A mo_period_A mo_shut_A mo_phase_A mo_quarters_A mo_tall_A mo_pairs_A mo_pad_A mo_cuts_A mo_at_A mo_first_A mo_kept_A mo_isKept_A mo_people mo_shots mo_looks mo_bride mo_hands mo_period mo_shut mo_phase mo_flash mo_quarters mo_tired mo_rows mo_columns mo_rise mo_tall mo_pairs mo_pad mo_padMany mo_cuts mo_at mo_first mo_kept mo_isKept mo_keptAt mo_isWriting H.size v2 mo_at_3 mo_first_4 hv15) F_X9_findStandings rfl rfl tw_1012 tw_1014 tp_43 hP hD hS hA [0, 1, 2, 3, 4, 5, 6, 7, 8, 9, 10, 11, 12, 13] [] [0, 1, 2, 3, 4, 5, 6, 7, 8, 9, 10, 11, 12, 13] rfl rfl (by decide) (by decide) (by decide) rfl (by decide) ⟨by decide, by decide⟩ rfl hl.1 (Nat.le_of_ble_eq_true rfl) ⟨by decide, by decide⟩ rfl dX9_placed_15 (fun H locs hP hD hS => ?_)
    refine lv_istore_n (pc := 18) (lv' := [(2, .int v2), (0, .ref mo_A), (1, .int p1)]) hx hb dX9_placed_18 rfl hl (by decide) rfl (fun ls hl => ?_)
    refine lv_iload_n (pc := 19) hx hb dX9_placed_19 rfl (lv_at hl 2 rfl) ?_
    refine lv_iconst (pc := 20) (v := (-1 : Int32)) hx hb dX9_placed_20 (by decide) ?_
    refine r_ic_ne (pc := 21) (tgt := 28) hx hb dX9_placed_21 (by decide) hf (fun hf => ?_) (fun hf => ?_)
    · refine lv_iload_n (pc := 28) hx hb dX9_placed_28 rfl (lv_at hl 0 rfl) ?_
      obtain ⟨k5, hk5, hf⟩ := lc0_e hf
      have K5 : ∀  (H : Heap) (locs : List Loc) (ls : Array Slot), k5 = some (r, r_mo_at, r_mo_first) → va_P D vwCl (w_X9 cI cJ cZ cS mo_A mo_looks_A mo_period_A mo_shut_A mo_phase_A mo_quarters_A mo_tall_A mo_pairs_A mo_pad_A mo_cuts_A mo_at_A mo_first_A mo_kept_A mo_isKept_A mo_people mo_shots mo_looks mo_bride mo_hands mo_period mo_shut mo_phase mo_flash mo_quarters mo_tired mo_rows mo_columns mo_rise mo_tall mo_pairs mo_pad mo_padMany mo_cuts mo_at_3 mo_first_4 mo_kept mo_isKept mo_keptAt mo_isWriting) H → va_D A (w_X9 cI cJ cZ cS mo_A mo_looks_A mo_period_A mo_shut_A mo_phase_A mo_quarters_A mo_tall_A mo_pairs_A mo_pad_A mo_cuts_A mo_at_A mo_first_A mo_kept_A mo_isKept_A mo_people mo_shots mo_looks mo_bride mo_hands mo_period mo_shut mo_phase mo_flash mo_quarters mo_tired mo_rows mo_columns mo_rise mo_tall mo_pairs mo_pad mo_padMany mo_cuts mo_at_3 mo_first_4 mo_kept mo_isKept mo_keptAt mo_isWriting) → va_S A s.heap H locs → lv_has ls 3 [] → W p l e (roR 4 90) s m args below meth c H locs 0 0 Q (F0 m 49 ls []) := by
        intro  H locs ls hf hP hD hS hl
        rw [hk5] at hf
        refine lv_bipush (pc := 49) (v := (-6 : Int32)) hx hb dX9_placed_49 (by decide) ?_
        cases hf
        exact hQ _ _ _ _ _ dX9_placed_51 rfl hP hD hS
      refine r_if_le (pc := 29) (tgt := 49) hx hb dX9_placed_29 (by decide) hf (fun hf => ?_) (fun hf => ?_)
      · exact K5  _ _ _ hf hP hD hS (lv_sub hl [] rfl)
      · refine lv_aload_n (pc := 32) hx hb dX9_placed_32 rfl (lv_at hl 1 rfl) ?_
        refine lv_iload_n (pc := 33) hx hb dX9_placed_33 rfl (lv_at hl 2 rfl) ?_
        obtain ⟨v6, hv34, hf⟩ := bd_e hf
        refine ro_Vi (pc := 34) (As := [.int p1]) (rest := []) E (c_X9_isPerson l D cI cJ cZ cS mo_A mo_looks_A mo_period_A mo_shut_A mo_phase_A mo_quarters_A mo_tall_A mo_pairs_A mo_pad_A mo_cuts_A mo_at_A mo_first_A mo_kept_A mo_isKept_A mo_people mo_shots mo_looks mo_bride mo_hands mo_period mo_shut mo_phase mo_flash mo_quarters mo_tired mo_rows mo_columns mo_rise mo_tall mo_pairs mo_pad mo_padMany mo_cuts mo_at_3 mo_first_4 mo_kept mo_isKept mo_keptAt mo_isWriting p1 v6 hv34) F_X9_isPerson rfl rfl tw_800 tw_802 tp_22 hP ⟨by decide, by decide⟩ rfl hl.1 (Nat.le_of_ble_eq_true rfl) ⟨by decide, by decide⟩ rfl dX9_placed_34 ?_
        refine r_if_eq (pc := 37) (tgt := 49) hx hb dX9_placed_37 (by decide) hf (fun hf => ?_) (fun hf => ?_)
        · exact K5  _ _ _ hf hP hD hS (lv_sub hl [] rfl)
        · refine lv_aload_n (pc := 40) hx hb dX9_placed_40 rfl (lv_at hl 1 rfl) ?_
          refine va_get (pc := 41) (D := D) (ci := 9) (v := .ref mo_first_A) (C := RX9) (T := TX9) (N := 25) hx hb hts inG9 hown hK hP 0 rfl rfl 20 (by decide) (hts _ tw_731) (fun _ h9 => h9) rfl dX9_placed_41 ?_
          refine lv_iload_n (pc := 44) hx hb dX9_placed_44 rfl (lv_at hl 2 rfl) ?_
          refine r_iald (pc := 45) hx hb hK hP 11 0 rfl rfl hf dX9_placed_45 (fun v7 hf => ?_)
          refine lv_goto (pc := 46) (tgt := 51) hx hb dX9_placed_46 (by decide) ?_
          cases hf
          exact hQ _ _ _ _ _ dX9_placed_51 rfl hP hD hS
    · refine lv_iload_n (pc := 24) hx hb dX9_placed_24 rfl (lv_at hl 0 rfl) ?_
      refine lv_goto (pc := 25) (tgt := 51) hx hb dX9_placed_25 (by decide) ?_
      cases hf
      exact hQ _ _ _ _ _ dX9_placed_51 rfl hP hD hS
  · refine lv_bipush (pc := 11) (v := (-3 : Int32)) hx hb dX9_placed_11 (by decide) ?_
    cases hf
    exact hQ _ _ _ _ _ dX9_placed_13 rfl hP hD hS
theorem F_X9_pass : CalF yX9_pass cX9_pass 3 (some .int) 1 := ⟨tw_1031, tw_10, by decide +kernel⟩
set_option maxRecDepth 100000 in
set_option maxHeartbeats 4000000 in
theorem c_X9_pass (l : Launch) (D : va_G) (cI cJ cZ cS : ClassId) (mo_A mo_looks_A mo_period_A mo_shut_A mo_phase_A mo_quarters_A mo_tall_A mo_pairs_A mo_pad_A mo_cuts_A mo_at_A mo_first_A mo_kept_A mo_isKept_A : Nat) (mo_people : Int32) (mo_shots : Int32) (mo_looks : Nat → Int32) (mo_bride : Int32) (mo_hands : Int32) (mo_period : Nat → Int32) (mo_shut : Nat → Int32) (mo_phase : Nat → Int32) (mo_flash : Int32) (mo_quarters : Nat → Int32) (mo_tired : Int32) (mo_rows : Int32) (mo_columns : Int32) (mo_rise : Int32) (mo_tall : Nat → Int32) (mo_pairs : Nat → Int32) (mo_pad : Nat → Int32) (mo_padMany : Int32) (mo_cuts : Nat → Int32) (mo_at : Nat → Int32) (mo_first : Nat → Int32) (mo_kept : Nat → Int32) (mo_isKept : Nat → Int32) (mo_keptAt : Int32) (mo_isWriting : Int32) (p1 : Int32) (sz : Nat) (r : Int32) (r_mo_keptAt : Int32) (r_mo_kept : Nat → Int32) (hf : f_X9_pass mo_kept mo_keptAt mo_isWriting p1 = some (r, r_mo_keptAt, r_mo_kept)) : RwC l D cI cJ cZ cS yX9_pass cX9_pass 3 (some .int) 0 0 (w_X9 cI cJ cZ cS mo_A mo_looks_A mo_period_A mo_shut_A mo_phase_A mo_quarters_A mo_tall_A mo_pairs_A mo_pad_A mo_cuts_A mo_at_A mo_first_A mo_kept_A mo_isKept_A mo_people mo_shots mo_looks mo_bride mo_hands mo_period mo_shut mo_phase mo_flash mo_quarters mo_tired mo_rows mo_columns mo_rise mo_tall mo_pairs mo_pad mo_padMany mo_cuts mo_at mo_first mo_kept mo_isKept mo_keptAt mo_isWriting) sz [.ref mo_A, .int p1] (some (.int r)) (w_X9 cI cJ cZ cS mo_A mo_looks_A mo_period_A mo_shut_A mo_phase_A mo_quarters_A mo_tall_A mo_pairs_A mo_pad_A mo_cuts_A mo_at_A mo_first_A mo_kept_A mo_isKept_A mo_people mo_shots mo_looks mo_bride mo_hands mo_period mo_shut mo_phase mo_flash mo_quarters mo_tired mo_rows mo_columns mo_rise mo_tall mo_pairs mo_pad mo_padMany mo_cuts mo_at mo_first r_mo_kept mo_isKept r_mo_keptAt mo_isWriting) := by
  refine rw_in_i (own := RX9) (by decide +kernel) rfl (Nat.le_of_ble_eq_true rfl) ?_
  intro p e s m args below meth c ls Q A E hA hQ hP hD hS hl
  obtain ⟨hx, hb, hml, hown, hts, hK, hN, hAO⟩ := id E
  have hl : lv_has ls 3 [(0, .ref mo_A), (1, .int p1)] := hl
  unfold f_X9_pass at hf
  obtain ⟨H, hH⟩ : ∃ H, H = s.heap := ⟨_, rfl⟩
  obtain ⟨locs, hlocs⟩ : ∃ L : List Loc, L = [] := ⟨_, rfl⟩
  rw [show W p l e (roR 0 0) s m args below meth c s.heap [] 0 0 Q (F0 m 0 ls []) = W p l e (roR 0 0) s m args below meth c H locs 0 0 Q (F0 m 0 ls []) by rw [hH, hlocs]]
  replace hS : va_S A s.heap H locs := by rw [hH, hlocs]; exact hS
  replace hP : va_P D vwCl (w_X9 cI cJ cZ cS mo_A mo_looks_A mo_period_A mo_shut_A mo_phase_A mo_quarters_A mo_tall_A mo_pairs_A mo_pad_A mo_cuts_A mo_at_A mo_first_A mo_kept_A mo_isKept_A mo_people mo_shots mo_looks mo_bride mo_hands mo_period mo_shut mo_phase mo_flash mo_quarters mo_tired mo_rows mo_columns mo_rise mo_tall mo_pairs mo_pad mo_padMany mo_cuts mo_at mo_first mo_kept mo_isKept mo_keptAt mo_isWriting) H := by rw [hH]; exact hP
  clear hH hlocs
  refine lv_aload_n (pc := 0) hx hb dX9_pass_0 rfl (lv_at hl 0 rfl) ?_
  refine va_get (pc := 1) (D := D) (ci := 9) (v := .int mo_isWriting) (C := RX9) (T := TX9) (N := 25) hx hb hts inG9 hown hK hP 0 rfl rfl 24 (by decide) (hts _ tw_735) (fun _ h9 => h9) rfl dX9_pass_1 ?_
  obtain ⟨k1, hk1, hf⟩ := lc1_e hf
  have K1 : ∀ (x3 : Int32) (H : Heap) (locs : List Loc) (ls : Array Slot), k1 x3 = some (r, r_mo_keptAt, r_mo_kept) → va_P D vwCl (w_X9 cI cJ cZ cS mo_A mo_looks_A mo_period_A mo_shut_A mo_phase_A mo_quarters_A mo_tall_A mo_pairs_A mo_pad_A mo_cuts_A mo_at_A mo_first_A mo_kept_A mo_isKept_A mo_people mo_shots mo_looks mo_bride mo_hands mo_period mo_shut mo_phase mo_flash mo_quarters mo_tired mo_rows mo_columns mo_rise mo_tall mo_pairs mo_pad mo_padMany mo_cuts mo_at mo_first mo_kept mo_isKept mo_keptAt mo_isWriting) H → va_D A (w_X9 cI cJ cZ cS mo_A mo_looks_A mo_period_A mo_shut_A mo_phase_A mo_quarters_A mo_tall_A mo_pairs_A mo_pad_A mo_cuts_A mo_at_A mo_first_A mo_kept_A mo_isKept_A mo_people mo_shots mo_looks mo_bride mo_hands mo_period mo_shut mo_phase mo_flash mo_quarters mo_tired mo_rows mo_columns mo_rise mo_tall mo_pairs mo_pad mo_padMany mo_cuts mo_at mo_first mo_kept mo_isKept mo_keptAt mo_isWriting) → va_S A s.heap H locs → lv_has ls 3 [(0, .ref mo_A)] → W p l e (roR 0 0) s m args below meth c H locs 0 0 Q (F0 m 20 ls [.int x3]) := by
    intro x3 H locs ls hf hP hD hS hl
    rw [hk1] at hf
    refine lv_istore_n (pc := 20) (lv' := [(2, .int x3), (0, .ref mo_A)]) hx hb dX9_pass_20 rfl hl (by decide) rfl (fun ls hl => ?_)
    refine lv_aload_n (pc := 21) hx hb dX9_pass_21 rfl (lv_at hl 1 rfl) ?_
    refine va_get (pc := 22) (D := D) (ci := 9) (v := .ref mo_kept_A) (C := RX9) (T := TX9) (N := 25) hx hb hts inG9 hown hK hP 0 rfl rfl 21 (by decide) (hts _ tw_732) (fun _ h9 => h9) rfl dX9_pass_22 ?_
    refine lv_aload_n (pc := 25) hx hb dX9_pass_25 rfl (lv_at hl 1 rfl) ?_
    refine va_get (pc := 26) (D := D) (ci := 9) (v := .int mo_keptAt) (C := RX9) (T := TX9) (N := 25) hx hb hts inG9 hown hK hP 0 rfl rfl 23 (by decide) (hts _ tw_734) (fun _ h9 => h9) rfl dX9_pass_26 ?_
    refine lv_iload_n (pc := 29) hx hb dX9_pass_29 rfl (lv_at hl 0 rfl) ?_
    refine r_iast (pc := 30) hx hb hK hP hD hS 12 0 rfl rfl hf dX9_pass_30 (fun mo_kept_4 H locs hf hP hD hS => ?_)
    have hP : va_P D vwCl (w_X9 cI cJ cZ cS mo_A mo_looks_A mo_period_A mo_shut_A mo_phase_A mo_quarters_A mo_tall_A mo_pairs_A mo_pad_A mo_cuts_A mo_at_A mo_first_A mo_kept_A mo_isKept_A mo_people mo_shots mo_looks mo_bride mo_hands mo_period mo_shut mo_phase mo_flash mo_quarters mo_tired mo_rows mo_columns mo_rise mo_tall mo_pairs mo_pad mo_padMany mo_cuts mo_at mo_first mo_kept_4 mo_isKept mo_keptAt mo_isWriting) H := hP
    have hD : va_D A (w_X9 cI cJ cZ cS mo_A mo_looks_A mo_period_A mo_shut_A mo_phase_A mo_quarters_A mo_tall_A mo_pairs_A mo_pad_A mo_cuts_A mo_at_A mo_first_A mo_kept_A mo_isKept_A mo_people mo_shots mo_looks mo_bride mo_hands mo_period mo_shut mo_phase mo_flash mo_quarters mo_tired mo_rows mo_columns mo_rise mo_tall mo_pairs mo_pad mo_padMany mo_cuts mo_at mo_first mo_kept_4 mo_isKept mo_keptAt mo_isWriting) := hD
    refine lv_aload_n (pc := 31) hx hb dX9_pass_31 rfl (lv_at hl 1 rfl) ?_
    refine lv_dup (pc := 32) hx hb dX9_pass_32 rfl ?_
    refine va_get (pc := 33) (D := D) (ci := 9) (v := .int mo_keptAt) (C := RX9) (T := TX9) (N := 25) hx hb hts inG9 hown hK hP 0 rfl rfl 23 (by decide) (hts _ tw_734) (fun _ h9 => h9) rfl dX9_pass_33 ?_
    refine lv_iconst (pc := 36) (v := (1 : Int32)) hx hb dX9_pass_36 (by decide) ?_
    refine lv_iadd (pc := 37) hx hb dX9_pass_37 ?_
    refine va_put (pc := 38) (D := D) (ci := 9) (v := .int (mo_keptAt + (1 : Int32))) (ty := .int) (C := RX9) (T := TX9) (N := 25) hx hb hts inG9 tyX9 tyX9_ok nmX9 hown hK hP hD hS 0 rfl rfl 23 (by decide) (hts _ tw_734) (fun _ h9 => h9) rfl (by decide +kernel) rfl rfl (Nat.le_of_ble_eq_true rfl) dX9_pass_38 (fun H locs hP hD hS => ?_)
    have hP : va_P D vwCl (w_X9 cI cJ cZ cS mo_A mo_looks_A mo_period_A mo_shut_A mo_phase_A mo_quarters_A mo_tall_A mo_pairs_A mo_pad_A mo_cuts_A mo_at_A mo_first_A mo_kept_A mo_isKept_A mo_people mo_shots mo_looks mo_bride mo_hands mo_period mo_shut mo_phase mo_flash mo_quarters mo_tired mo_rows mo_columns mo_rise mo_tall mo_pairs mo_pad mo_padMany mo_cuts mo_at mo_first mo_kept_4 mo_isKept (mo_keptAt + (1 : Int32)) mo_isWriting) H := hP
    have hD : va_D A (w_X9 cI cJ cZ cS mo_A mo_looks_A mo_period_A mo_shut_A mo_phase_A mo_quarters_A mo_tall_A mo_pairs_A mo_pad_A mo_cuts_A mo_at_A mo_first_A mo_kept_A mo_isKept_A mo_people mo_shots mo_looks mo_bride mo_hands mo_period mo_shut mo_phase mo_flash mo_quarters mo_tired mo_rows mo_columns mo_rise mo_tall mo_pairs mo_pad mo_padMany mo_cuts mo_at mo_first mo_kept_4 mo_isKept (mo_keptAt + (1 : Int32)) mo_isWriting) := hD
    refine lv_iload_n (pc := 41) hx hb dX9_pass_41 rfl (lv_at hl 0 rfl) ?_
    cases hf
    exact hQ _ _ _ _ _ dX9_pass_42 rfl hP hD hS
  refine r_if_eq (pc := 4) (tgt := 11) hx hb dX9_pass_4 (by decide) hf (fun hf => ?_) (fun hf => ?_)
  · refine lv_aload_n (pc := 11) hx hb dX9_pass_11 rfl (lv_at hl 0 rfl) ?_
    refine va_get (pc := 12) (D := D) (ci := 9) (v := .ref mo_kept_A) (C := RX9) (T := TX9) (N := 25) hx hb hts inG9 hown hK hP 0 rfl rfl 21 (by decide) (hts _ tw_732) (fun _ h9 => h9) rfl dX9_pass_12 ?_
    refine lv_aload_n (pc := 15) hx hb dX9_pass_15 rfl (lv_at hl 0 rfl) ?_
    refine va_get (pc := 16) (D := D) (ci := 9) (v := .int mo_keptAt) (C := RX9) (T := TX9) (N := 25) hx hb hts inG9 hown hK hP 0 rfl rfl 23 (by decide) (hts _ tw_734) (fun _ h9 => h9) rfl dX9_pass_16 ?_
    refine r_iald (pc := 19) hx hb hK hP 12 0 rfl rfl hf dX9_pass_19 (fun v2 hf => ?_)
    exact K1 _ _ _ _ hf hP hD hS (lv_sub hl [0] rfl)
  · refine lv_iload_n (pc := 7) hx hb dX9_pass_7 rfl (lv_at hl 1 rfl) ?_
    refine lv_goto (pc := 8) (tgt := 20) hx hb dX9_pass_8 (by decide) ?_
    exact K1 _ _ _ _ hf hP hD hS (lv_sub hl [0] rfl)
