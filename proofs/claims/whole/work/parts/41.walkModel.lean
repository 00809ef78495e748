theorem F_X9_wipe : CalF yX9_wipe cX9_wipe 2 (some .int) 0 := ⟨tw_813, tw_10, by decide +kernel⟩
set_option maxRecDepth 100000 in
set_option maxHeartbeats 4000000 in
theorem c_X9_wipe (l : Launch) (D : va_G) (cI cJ cZ cS : ClassId) (mo_A mo_looks_A mo_period_A mo_shut_A mo_phase_A mo_quarters_A mo_tall_A mo_pairs_A mo_pad_A mo_cuts_A mo_at_A mo_first_A mo_kept_A mo_isKept_A : Nat) (mo_people : Int32) (mo_shots : Int32) (mo_looks : Nat → Int32) (mo_bride : Int32) (mo_hands : Int32) (mo_period : Nat → Int32) (mo_shut : Nat → Int32) (mo_phase : Nat → Int32) (mo_flash : Int32) (mo_quarters : Nat → Int32) (mo_tired : Int32) (mo_rows : Int32) (mo_columns : Int32) (mo_rise : Int32) (mo_tall : Nat → Int32) (mo_pairs : Nat → Int32) (mo_pad : Nat → Int32) (mo_padMany : Int32) (mo_cuts : Nat → Int32) (mo_at : Nat → Int32) (mo_first : Nat → Int32) (mo_kept : Nat → Int32) (mo_isKept : Nat → Int32) (mo_keptAt : Int32) (mo_isWriting : Int32) (sz : Nat) (r : Int32) (r_mo_padMany : Int32) (hf : f_X9_wipe mo_padMany = some (r, r_mo_padMany)) : RwC l D cI cJ cZ cS yX9_wipe cX9_wipe 2 (some .int) 0 0 (w_X9 cI cJ cZ cS mo_A mo_looks_A mo_period_A mo_shut_A mo_phase_A mo_quarters_A mo_tall_A mo_pairs_A mo_pad_A mo_cuts_A mo_at_A mo_first_A mo_kept_A mo_isKept_A mo_people mo_shots mo_looks mo_bride mo_hands mo_period mo_shut mo_phase mo_flash mo_quarters mo_tired mo_rows mo_columns mo_rise mo_tall mo_pairs mo_pad mo_padMany mo_cuts mo_at mo_first mo_kept mo_isKept mo_keptAt mo_isWriting) sz [.ref mo_A] (some (.int r)) (w_X9 cI cJ cZ cS mo_A mo_looks_A mo_period_A mo_shut_A mo_phase_A mo_quarters_A mo_tall_A mo_pairs_A mo_pad_A mo_cuts_A mo_at_A mo_first_A mo_kept_A mo_isKept_A mo_people mo_shots mo_looks mo_bride mo_hands mo_period mo_shut mo_phase mo_flash mo_quarters mo_tired mo_rows mo_columns mo_rise mo_tall mo_pairs mo_pad r_mo_padMany mo_cuts mo_at mo_first mo_kept mo_isKept mo_keptAt mo_isWriting) := by
  refine rw_in_i (own := RX9) (by decide +kernel) rfl (Nat.le_of_ble_eq_true rfl) ?_
  intro p e s m args below meth c ls Q A E hA hQ hP hD hS hl
  obtain ⟨hx, hb, hml, hown, hts, hK, hN, hAO⟩ := id E
  have hl : lv_has ls 2 [(0, .ref mo_A)] := hl
  unfold f_X9_wipe at hf
  obtain ⟨H, hH⟩ : ∃ H, H = s.heap := ⟨_, rfl⟩
  obtain ⟨locs, hlocs⟩ : ∃ L : List Loc, L = [] := ⟨_, rfl⟩
  rw [show W p l e (roR 0 0) s m args below meth c s.heap [] 0 0 Q (F0 m 0 ls []) = W p l e (roR 0 0) s m args below meth c H locs 0 0 Q (F0 m 0 ls []) by rw [hH, hlocs]]
  replace hS : va_S A s.heap H locs := by rw [hH, hlocs]; exact hS
  replace hP : va_P D vwCl (w_X9 cI cJ cZ cS mo_A mo_looks_A mo_period_A mo_shut_A mo_phase_A mo_quarters_A mo_tall_A mo_pairs_A mo_pad_A mo_cuts_A mo_at_A mo_first_A mo_kept_A mo_isKept_A mo_people mo_shots mo_looks mo_bride mo_hands mo_period mo_shut mo_phase mo_flash mo_quarters mo_tired mo_rows mo_columns mo_rise mo_tall mo_pairs mo_pad mo_padMany mo_cuts mo_at mo_first mo_kept mo_isKept mo_keptAt mo_isWriting) H := by rw [hH]; exact hP
  clear hH hlocs
  refine lv_aload_n (pc := 0) hx hb dX9_wipe_0 rfl (lv_at hl 0 rfl) ?_
  refine va_get (pc := 1) (D := D) (ci := 9) (v := .int mo_padMany) (C := RX9) (T := TX9) (N := 25) hx hb hts inG9 hown hK hP 0 rfl rfl 17 (by decide) (hts _ tw_728) (fun _ h9 => h9) rfl dX9_wipe_1 ?_
  refine lv_istore_n (pc := 4) (lv' := [(1, .int mo_padMany), (0, .ref mo_A)]) hx hb dX9_wipe_4 rfl hl (by decide) rfl (fun ls hl => ?_)
  refine lv_aload_n (pc := 5) hx hb dX9_wipe_5 rfl (lv_at hl 1 rfl) ?_
  refine lv_iconst (pc := 6) (v := (0 : Int32)) hx hb dX9_wipe_6 (by decide) ?_
  refine va_put (pc := 7) (D := D) (ci := 9) (v := .int (0 : Int32)) (ty := .int) (C := RX9) (T := TX9) (N := 25) hx hb hts inG9 tyX9 tyX9_ok nmX9 hown hK hP hD hS 0 rfl rfl 17 (by decide) (hts _ tw_728) (fun _ h9 => h9) rfl (by decide +kernel) rfl rfl (Nat.le_of_ble_eq_true rfl) dX9_wipe_7 (fun H locs hP hD hS => ?_)
  have hP : va_P D vwCl (w_X9 cI cJ cZ cS mo_A mo_looks_A mo_period_A mo_shut_A mo_phase_A mo_quarters_A mo_tall_A mo_pairs_A mo_pad_A mo_cuts_A mo_at_A mo_first_A mo_kept_A mo_isKept_A mo_people mo_shots mo_looks mo_bride mo_hands mo_period mo_shut mo_phase mo_flash mo_quarters mo_tired mo_rows mo_columns mo_rise mo_tall mo_pairs mo_pad (0 : Int32) mo_cuts mo_at mo_first mo_kept mo_isKept mo_keptAt mo_isWriting) H := hP
  have hD : va_D A (w_X9 cI cJ cZ cS mo_A mo_looks_A mo_period_A mo_shut_A mo_phase_A mo_quarters_A mo_tall_A mo_pairs_A mo_pad_A mo_cuts_A mo_at_A mo_first_A mo_kept_A mo_isKept_A mo_people mo_shots mo_looks mo_bride mo_hands mo_period mo_shut mo_phase mo_flash mo_quarters mo_tired mo_rows mo_columns mo_rise mo_tall mo_pairs mo_pad (0 : Int32) mo_cuts mo_at mo_first mo_kept mo_isKept mo_keptAt mo_isWriting) := hD
  refine lv_iload_n (pc := 10) hx hb dX9_wipe_10 rfl (lv_at hl 0 rfl) ?_
  cases hf
  exact hQ _ _ _ _ _ dX9_wipe_11 rfl hP hD hS
theorem F_X9_places : CalF yX9_places cX9_places 1 (some .int) 0 := ⟨tw_832, tw_10, by decide +kernel⟩
set_option maxRecDepth 100000 in
set_option maxHeartbeats 4000000 in
theorem c_X9_places (l : Launch) (D : va_G) (cI cJ cZ cS : ClassId) (mo_A mo_looks_A mo_period_A mo_shut_A mo_phase_A mo_quarters_A mo_tall_A mo_pairs_A mo_pad_A mo_cuts_A mo_at_A mo_first_A mo_kept_A mo_isKept_A : Nat) (mo_people : Int32) (mo_shots : Int32) (mo_looks : Nat → Int32) (mo_bride : Int32) (mo_hands : Int32) (mo_period : Nat → Int32) (mo_shut : Nat → Int32) (mo_phase : Nat → Int32) (mo_flash : Int32) (mo_quarters : Nat → Int32) (mo_tired : Int32) (mo_rows : Int32) (mo_columns : Int32) (mo_rise : Int32) (mo_tall : Nat → Int32) (mo_pairs : Nat → Int32) (mo_pad : Nat → Int32) (mo_padMany : Int32) (mo_cuts : Nat → Int32) (mo_at : Nat → Int32) (mo_first : Nat → Int32) (mo_kept : Nat → Int32) (mo_isKept : Nat → Int32) (mo_keptAt : Int32) (mo_isWriting : Int32) (r : Int32) (hf : f_X9_places mo_rows mo_columns = some r) : RoC l D cI cJ cZ cS yX9_places cX9_places 1 (some .int) 0 0 (w_X9 cI cJ cZ cS mo_A mo_looks_A mo_period_A mo_shut_A mo_phase_A mo_quarters_A mo_tall_A mo_pairs_A mo_pad_A mo_cuts_A mo_at_A mo_first_A mo_kept_A mo_isKept_A mo_people mo_shots mo_looks mo_bride mo_hands mo_period mo_shut mo_phase mo_flash mo_quarters mo_tired mo_rows mo_columns mo_rise mo_tall mo_pairs mo_pad mo_padMany mo_cuts mo_at mo_first mo_kept mo_isKept mo_keptAt mo_isWriting) [.ref mo_A] (some (.int r)) := by
  refine ro_in_i (own := RX9) (by decide +kernel) rfl (Nat.le_of_ble_eq_true rfl) ?_
  intro p e s m args below meth c ls Q E hQ hP hl
  obtain ⟨hx, hb, hml, hown, hts, hK, hN, hAO⟩ := id E
  have hl : lv_has ls 1 [(0, .ref mo_A)] := hl
  unfold f_X9_places at hf
  refine lv_aload_n (pc := 0) hx hb dX9_places_0 rfl (lv_at hl 0 rfl) ?_
  refine va_get (pc := 1) (D := D) (ci := 9) (v := .int mo_rows) (C := RX9) (T := TX9) (N := 25) hx hb hts inG9 hown hK hP 0 rfl rfl 11 (by decide) (hts _ tw_722) (fun _ h9 => h9) rfl dX9_places_1 ?_
  refine lv_aload_n (pc := 4) hx hb dX9_places_4 rfl (lv_at hl 0 rfl) ?_
  refine va_get (pc := 5) (D := D) (ci := 9) (v := .int mo_columns) (C := RX9) (T := TX9) (N := 25) hx hb hts inG9 hown hK hP 0 rfl rfl 12 (by decide) (hts _ tw_723) (fun _ h9 => h9) rfl dX9_places_5 ?_
  refine lv_imul (pc := 8) hx hb dX9_places_8 ?_
  exact hQ _ _ _ dX9_places_9 hf
theorem F_X9_faultOfShot : CalF yX9_faultOfShot cX9_faultOfShot 2 (some .int) 0 := ⟨tw_821, tw_10, by decide +kernel⟩
set_option maxRecDepth 100000 in
set_option maxHeartbeats 4000000 in
theorem c_X9_faultOfShot (l : Launch) (D : va_G) (cI cJ cZ cS : ClassId) (N : Nat) (mo_A mo_looks_A mo_period_A mo_shut_A mo_phase_A mo_quarters_A mo_tall_A mo_pairs_A mo_pad_A mo_cuts_A mo_at_A mo_first_A mo_kept_A mo_isKept_A : Nat) (mo_people : Int32) (mo_shots : Int32) (mo_looks : Nat → Int32) (mo_bride : Int32) (mo_hands : Int32) (mo_period : Nat → Int32) (mo_shut : Nat → Int32) (mo_phase : Nat → Int32) (mo_flash : Int32) (mo_quarters : Nat → Int32) (mo_tired : Int32) (mo_rows : Int32) (mo_columns : Int32) (mo_rise : Int32) (mo_tall : Nat → Int32) (mo_pairs : Nat → Int32) (mo_pad : Nat → Int32) (mo_padMany : Int32) (mo_cuts : Nat → Int32) (mo_at : Nat → Int32) (mo_first : Nat → Int32) (mo_kept : Nat → Int32) (mo_isKept : Nat → Int32) (mo_keptAt : Int32) (mo_isWriting : Int32) (r : Int32) (hf : f_X9_faultOfShot N mo_people mo_pad mo_padMany = some r) : RoC l D cI cJ cZ cS yX9_faultOfShot cX9_faultOfShot 2 (some .int) 1 20 (w_X9 cI cJ cZ cS mo_A mo_looks_A mo_period_A mo_shut_A mo_phase_A mo_quarters_A mo_tall_A mo_pairs_A mo_pad_A mo_cuts_A mo_at_A mo_first_A mo_kept_A mo_isKept_A mo_people mo_shots mo_looks mo_bride mo_hands mo_period mo_shut mo_phase mo_flash mo_quarters mo_tired mo_rows mo_columns mo_rise mo_tall mo_pairs mo_pad mo_padMany mo_cuts mo_at mo_first mo_kept mo_isKept mo_keptAt mo_isWriting) [.ref mo_A] (some (.int r)) := by
  refine ro_in_i (own := RX9) (by decide +kernel) rfl (Nat.le_of_ble_eq_true rfl) ?_
  intro p e s m args below meth c ls Q E hQ hP hl
  obtain ⟨hx, hb, hml, hown, hts, hK, hN, hAO⟩ := id E
  have hl : lv_has ls 2 [(0, .ref mo_A)] := hl
  unfold f_X9_faultOfShot at hf
  refine lv_iconst (pc := 0) (v := (0 : Int32)) hx hb dX9_faultOfShot_0 (by decide) ?_
  refine lv_istore_n (pc := 1) (lv' := [(1, .int (0 : Int32)), (0, .ref mo_A)]) hx hb dX9_faultOfShot_1 rfl hl (by decide) rfl (fun ls hl => ?_)
  obtain ⟨k3, hk3, hf⟩ := lc0_e hf
  have K3 : ∀  (ls : Array Slot), k3 = some r → lv_has ls 2 [(0, .ref mo_A)] → W p l e (roR 1 20) s m args below meth c s.heap [] 0 0 Q (F0 m 38 ls []) := by
    intro  ls hf hl
    rw [hk3] at hf
    refine lv_aload_n (pc := 38) hx hb dX9_faultOfShot_38 rfl (lv_at hl 0 rfl) ?_
    refine va_get (pc := 39) (D := D) (ci := 9) (v := .int mo_padMany) (C := RX9) (T := TX9) (N := 25) hx hb hts inG9 hown hK hP 0 rfl rfl 17 (by decide) (hts _ tw_728) (fun _ h9 => h9) rfl dX9_faultOfShot_39 ?_
    refine lv_aload_n (pc := 42) hx hb dX9_faultOfShot_42 rfl (lv_at hl 0 rfl) ?_
    refine va_get (pc := 43) (D := D) (ci := 9) (v := .int mo_people) (C := RX9) (T := TX9) (N := 25) hx hb hts inG9 hown hK hP 0 rfl rfl 0 (by decide) (hts _ tw_711) (fun _ h9 => h9) rfl dX9_faultOfShot_43 ?_
    refine r_ic_ge (pc := 46) (tgt := 56) hx hb dX9_faultOfShot_46 (by decide) hf (fun hf => ?_) (fun hf => ?_)
    · refine lv_bipush (pc := 56) (v := (-6 : Int32)) hx hb dX9_faultOfShot_56 (by decide) ?_
      exact hQ _ _ _ dX9_faultOfShot_58 hf
    · refine lv_aload_n (pc := 49) hx hb dX9_faultOfShot_49 rfl (lv_at hl 0 rfl) ?_
      refine va_get (pc := 50) (D := D) (ci := 9) (v := .int mo_padMany) (C := RX9) (T := TX9) (N := 25) hx hb hts inG9 hown hK hP 0 rfl rfl 17 (by decide) (hts _ tw_728) (fun _ h9 => h9) rfl dX9_faultOfShot_50 ?_
      refine lv_goto (pc := 53) (tgt := 58) hx hb dX9_faultOfShot_53 (by decide) ?_
      exact hQ _ _ _ dX9_faultOfShot_58 hf
  have L2 : ∀ (n : Nat), ∀ (y1 : Int32) (ls : Array Slot), f_X9_faultOfShot_L2 mo_people mo_pad mo_padMany k3 n y1 = some r → lv_has ls 2 [(0, .ref mo_A), (1, .int y1)] → W p l e (roR 1 20) s m args below meth c s.heap [] 0 0 Q (F0 m 2 ls []) := by
    intro n
    induction n with
    | zero =>
      intro y1 ls hf
      rw [f_X9_faultOfShot_L2] at hf
      cases hf
    | succ n ih =>
      intro y1 ls hf hl
      rw [f_X9_faultOfShot_L2] at hf
      refine lv_iload_n (pc := 2) hx hb dX9_faultOfShot_2 rfl (lv_at hl 1 rfl) ?_
      refine lv_aload_n (pc := 3) hx hb dX9_faultOfShot_3 rfl (lv_at hl 0 rfl) ?_
      refine va_get (pc := 4) (D := D) (ci := 9) (v := .int mo_padMany) (C := RX9) (T := TX9) (N := 25) hx hb hts inG9 hown hK hP 0 rfl rfl 17 (by decide) (hts _ tw_728) (fun _ h9 => h9) rfl dX9_faultOfShot_4 ?_
      refine r_ic_ge (pc := 7) (tgt := 38) hx hb dX9_faultOfShot_7 (by decide) hf (fun hf => ?_) (fun hf => ?_)
      · exact K3  _ hf (lv_sub hl [0] rfl)
      · refine lv_iload_n (pc := 10) hx hb dX9_faultOfShot_10 rfl (lv_at hl 1 rfl) ?_
        refine lv_aload_n (pc := 11) hx hb dX9_faultOfShot_11 rfl (lv_at hl 0 rfl) ?_
        refine va_get (pc := 12) (D := D) (ci := 9) (v := .int mo_people) (C := RX9) (T := TX9) (N := 25) hx hb hts inG9 hown hK hP 0 rfl rfl 0 (by decide) (hts _ tw_711) (fun _ h9 => h9) rfl dX9_faultOfShot_12 ?_
        refine r_ic_eq (pc := 15) (tgt := 30) hx hb dX9_faultOfShot_15 (by decide) hf (fun hf => ?_) (fun hf => ?_)
        · refine lv_iload_n (pc := 30) hx hb dX9_faultOfShot_30 rfl (lv_at hl 1 rfl) ?_
          exact hQ _ _ _ dX9_faultOfShot_31 hf
        · refine lv_aload_n (pc := 18) hx hb dX9_faultOfShot_18 rfl (lv_at hl 0 rfl) ?_
          refine va_get (pc := 19) (D := D) (ci := 9) (v := .ref mo_pad_A) (C := RX9) (T := TX9) (N := 25) hx hb hts inG9 hown hK hP 0 rfl rfl 16 (by decide) (hts _ tw_727) (fun _ h9 => h9) rfl dX9_faultOfShot_19 ?_
          refine lv_iload_n (pc := 22) hx hb dX9_faultOfShot_22 rfl (lv_at hl 1 rfl) ?_
          refine r_iald (pc := 23) hx hb hK hP 8 0 rfl rfl hf dX9_faultOfShot_23 (fun v4 hf => ?_)
          obtain ⟨v5, hv24, hf⟩ := bd_e hf
          refine ro_Si (pc := 24) (As := [.int v4]) (rest := []) E (c_X9_isLook l D cI cJ cZ cS v4 v5 hv24) F_X9_isLook tw_822 tw_823  va_P_nil ⟨by decide, by decide⟩ rfl hl.1 (Nat.le_of_ble_eq_true rfl) ⟨by decide, by decide⟩ rfl dX9_faultOfShot_24 ?_
          refine r_if_ne (pc := 27) (tgt := 32) hx hb dX9_faultOfShot_27 (by decide) hf (fun hf => ?_) (fun hf => ?_)
          · refine lv_iinc (pc := 32) (v := (y1 + (1 : Int32))) (lv' := [(1, .int (y1 + (1 : Int32))), (0, .ref mo_A)]) hx hb dX9_faultOfShot_32 hl (k := 1) rfl (by rfl) (by decide) rfl (fun ls hl => ?_)
            refine lv_goto (pc := 35) (tgt := 2) hx hb dX9_faultOfShot_35 (by decide) ?_
            exact ih _ _ hf (lv_sub hl [1, 0] rfl)
          · refine lv_iload_n (pc := 30) hx hb dX9_faultOfShot_30 rfl (lv_at hl 1 rfl) ?_
            exact hQ _ _ _ dX9_faultOfShot_31 hf
  exact L2 N _ _ hf (lv_sub hl [1, 0] rfl)
theorem F_X9_faultOfStanding : CalF yX9_faultOfStanding cX9_faultOfStanding 4 (some .int) 0 := ⟨tw_828, tw_10, by decide +kernel⟩
set_option maxRecDepth 100000 in
set_option maxHeartbeats 4000000 in
theorem c_X9_faultOfStanding (l : Launch) (D : va_G) (cI cJ cZ cS : ClassId) (N : Nat) (mo_A mo_looks_A mo_period_A mo_shut_A mo_phase_A mo_quarters_A mo_tall_A mo_pairs_A mo_pad_A mo_cuts_A mo_at_A mo_first_A mo_kept_A mo_isKept_A : Nat) (mo_people : Int32) (mo_shots : Int32) (mo_looks : Nat → Int32) (mo_bride : Int32) (mo_hands : Int32) (mo_period : Nat → Int32) (mo_shut : Nat → Int32) (mo_phase : Nat → Int32) (mo_flash : Int32) (mo_quarters : Nat → Int32) (mo_tired : Int32) (mo_rows : Int32) (mo_columns : Int32) (mo_rise : Int32) (mo_tall : Nat → Int32) (mo_pairs : Nat → Int32) (mo_pad : Nat → Int32) (mo_padMany : Int32) (mo_cuts : Nat → Int32) (mo_at : Nat → Int32) (mo_first : Nat → Int32) (mo_kept : Nat → Int32) (mo_isKept : Nat → Int32) (mo_keptAt : Int32) (mo_isWriting : Int32) (r : Int32) (hf : f_X9_faultOfStanding N mo_people mo_rows mo_columns mo_pad mo_padMany = some r) : RoC l D cI cJ cZ cS yX9_faultOfStanding cX9_faultOfStanding 4 (some .int) 1 25 (w_X9 cI cJ cZ cS mo_A mo_looks_A mo_period_A mo_shut_A mo_phase_A mo_quarters_A mo_tall_A mo_pairs_A mo_pad_A mo_cuts_A mo_at_A mo_first_A mo_kept_A mo_isKept_A mo_people mo_shots mo_looks mo_bride mo_hands mo_period mo_shut mo_phase mo_flash mo_quarters mo_tired mo_rows mo_columns mo_rise mo_tall mo_pairs mo_pad mo_padMany mo_cuts mo_at mo_first mo_kept mo_isKept mo_keptAt mo_isWriting) [.ref mo_A] (some (.int r)) := by
  refine ro_in_i (own := RX9) (by decide +kernel) rfl (Nat.le_of_ble_eq_true rfl) ?_
  intro p e s m args below meth c ls Q E hQ hP hl
  obtain ⟨hx, hb, hml, hown, hts, hK, hN, hAO⟩ := id E
  have hl : lv_has ls 4 [(0, .ref mo_A)] := hl
  unfold f_X9_faultOfStanding at hf
  refine lv_iconst (pc := 0) (v := (0 : Int32)) hx hb dX9_faultOfStanding_0 (by decide) ?_
  refine lv_istore_n (pc := 1) (lv' := [(1, .int (0 : Int32)), (0, .ref mo_A)]) hx hb dX9_faultOfStanding_1 rfl hl (by decide) rfl (fun ls hl => ?_)
  refine lv_iconst (pc := 2) (v := (0 : Int32)) hx hb dX9_faultOfStanding_2 (by decide) ?_
  refine lv_istore_n (pc := 3) (lv' := [(2, .int (0 : Int32)), (1, .int (0 : Int32)), (0, .ref mo_A)]) hx hb dX9_faultOfStanding_3 rfl hl (by decide) rfl (fun ls hl => ?_)
  obtain ⟨k4, hk4, hf⟩ := lc0_e hf
  have K4 : ∀  (ls : Array Slot), k4 = some r → lv_has ls 4 [(0, .ref mo_A)] → W p l e (roR 1 25) s m args below meth c s.heap [] 0 0 Q (F0 m 69 ls []) := by
    intro  ls hf hl
    rw [hk4] at hf
    refine lv_aload_n (pc := 69) hx hb dX9_faultOfStanding_69 rfl (lv_at hl 0 rfl) ?_
    refine va_get (pc := 70) (D := D) (ci := 9) (v := .int mo_padMany) (C := RX9) (T := TX9) (N := 25) hx hb hts inG9 hown hK hP 0 rfl rfl 17 (by decide) (hts _ tw_728) (fun _ h9 => h9) rfl dX9_faultOfStanding_70 ?_
    refine lv_aload_n (pc := 73) hx hb dX9_faultOfStanding_73 rfl (lv_at hl 0 rfl) ?_
    refine va_get (pc := 74) (D := D) (ci := 9) (v := .int mo_people) (C := RX9) (T := TX9) (N := 25) hx hb hts inG9 hown hK hP 0 rfl rfl 0 (by decide) (hts _ tw_711) (fun _ h9 => h9) rfl dX9_faultOfStanding_74 ?_
    refine r_ic_ge (pc := 77) (tgt := 87) hx hb dX9_faultOfStanding_77 (by decide) hf (fun hf => ?_) (fun hf => ?_)
    · refine lv_bipush (pc := 87) (v := (-6 : Int32)) hx hb dX9_faultOfStanding_87 (by decide) ?_
      exact hQ _ _ _ dX9_faultOfStanding_89 hf
    · refine lv_aload_n (pc := 80) hx hb dX9_faultOfStanding_80 rfl (lv_at hl 0 rfl) ?_
      refine va_get (pc := 81) (D := D) (ci := 9) (v := .int mo_padMany) (C := RX9) (T := TX9) (N := 25) hx hb hts inG9 hown hK hP 0 rfl rfl 17 (by decide) (hts _ tw_728) (fun _ h9 => h9) rfl dX9_faultOfStanding_81 ?_
      refine lv_goto (pc := 84) (tgt := 89) hx hb dX9_faultOfStanding_84 (by decide) ?_
      exact hQ _ _ _ dX9_faultOfStanding_89 hf
  have L4 : ∀ (n : Nat), ∀ (y1 : Int32) (y2 : Int32) (ls : Array Slot), f_X9_faultOfStanding_L4 mo_people mo_rows mo_columns mo_pad mo_padMany k4 n y1 y2 = some r → lv_has ls 4 [(0, .ref mo_A), (1, .int y1), (2, .int y2)] → W p l e (roR 1 25) s m args below meth c s.heap [] 0 0 Q (F0 m 4 ls []) := by
    intro n
    induction n with
    | zero =>
      intro y1 y2 ls hf
      rw [f_X9_faultOfStanding_L4] at hf
      cases hf
    | succ n ih =>
      intro y1 y2 ls hf hl
      rw [f_X9_faultOfStanding_L4] at hf
      refine lv_iload_n (pc := 4) hx hb dX9_faultOfStanding_4 rfl (lv_at hl 2 rfl) ?_
      refine lv_aload_n (pc := 5) hx hb dX9_faultOfStanding_5 rfl (lv_at hl 0 rfl) ?_
      refine va_get (pc := 6) (D := D) (ci := 9) (v := .int mo_padMany) (C := RX9) (T := TX9) (N := 25) hx hb hts inG9 hown hK hP 0 rfl rfl 17 (by decide) (hts _ tw_728) (fun _ h9 => h9) rfl dX9_faultOfStanding_6 ?_
      refine r_ic_ge (pc := 9) (tgt := 69) hx hb dX9_faultOfStanding_9 (by decide) hf (fun hf => ?_) (fun hf => ?_)
      · exact K4  _ hf (lv_sub hl [0] rfl)
      · refine lv_aload_n (pc := 12) hx hb dX9_faultOfStanding_12 rfl (lv_at hl 0 rfl) ?_
        refine va_get (pc := 13) (D := D) (ci := 9) (v := .ref mo_pad_A) (C := RX9) (T := TX9) (N := 25) hx hb hts inG9 hown hK hP 0 rfl rfl 16 (by decide) (hts _ tw_727) (fun _ h9 => h9) rfl dX9_faultOfStanding_13 ?_
        refine lv_iload_n (pc := 16) hx hb dX9_faultOfStanding_16 rfl (lv_at hl 2 rfl) ?_
        refine r_iald (pc := 17) hx hb hK hP 8 0 rfl rfl hf dX9_faultOfStanding_17 (fun v5 hf => ?_)
        refine lv_bipush (pc := 18) (v := (48 : Int32)) hx hb dX9_faultOfStanding_18 (by decide) ?_
        refine lv_isub (pc := 20) hx hb dX9_faultOfStanding_20 ?_
        refine lv_istore_n (pc := 21) (lv' := [(3, .int (v5 - (48 : Int32))), (0, .ref mo_A), (1, .int y1), (2, .int y2)]) hx hb dX9_faultOfStanding_21 rfl hl (by decide) rfl (fun ls hl => ?_)
        refine lv_iload_n (pc := 22) hx hb dX9_faultOfStanding_22 rfl (lv_at hl 3 rfl) ?_
        refine lv_aload_n (pc := 23) hx hb dX9_faultOfStanding_23 rfl (lv_at hl 1 rfl) ?_
        refine va_get (pc := 24) (D := D) (ci := 9) (v := .int mo_people) (C := RX9) (T := TX9) (N := 25) hx hb hts inG9 hown hK hP 0 rfl rfl 0 (by decide) (hts _ tw_711) (fun _ h9 => h9) rfl dX9_faultOfStanding_24 ?_
        refine r_ic_eq (pc := 27) (tgt := 55) hx hb dX9_faultOfStanding_27 (by decide) hf (fun hf => ?_) (fun hf => ?_)
        · refine lv_iload_n (pc := 55) hx hb dX9_faultOfStanding_55 rfl (lv_at hl 3 rfl) ?_
          exact hQ _ _ _ dX9_faultOfStanding_56 hf
        · refine lv_iload_n (pc := 30) hx hb dX9_faultOfStanding_30 rfl (lv_at hl 0 rfl) ?_
          refine lv_i2l (pc := 31) (v := (Int32.toInt64 (v5 - (48 : Int32)))) hx hb dX9_faultOfStanding_31 rfl ?_
          refine lv_lconst (pc := 32) (v := (0 : Int64)) hx hb dX9_faultOfStanding_32 (by decide) ?_
          refine lv_aload_n (pc := 33) hx hb dX9_faultOfStanding_33 rfl (lv_at hl 1 rfl) ?_
          obtain ⟨v6, hv34, hf⟩ := bd_e hf
          refine ro_Vi (pc := 34) (As := []) (rest := [.long (0 : Int64), .long (Int32.toInt64 (v5 - (48 : Int32)))]) E (c_X9_places l D cI cJ cZ cS mo_A mo_looks_A mo_period_A mo_shut_A mo_phase_A mo_quarters_A mo_tall_A mo_pairs_A mo_pad_A mo_cuts_A mo_at_A mo_first_A mo_kept_A mo_isKept_A mo_people mo_shots mo_looks mo_bride mo_hands mo_period mo_shut mo_phase mo_flash mo_quarters mo_tired mo_rows mo_columns mo_rise mo_tall mo_pairs mo_pad mo_padMany mo_cuts mo_at mo_first mo_kept mo_isKept mo_keptAt mo_isWriting v6 hv34) F_X9_places rfl rfl tw_829 tw_831 tp_25 hP ⟨by decide, by decide⟩ rfl hl.1 (Nat.le_of_ble_eq_true rfl) ⟨by decide, by decide⟩ rfl dX9_faultOfStanding_34 ?_
          refine lv_iconst (pc := 37) (v := (1 : Int32)) hx hb dX9_faultOfStanding_37 (by decide) ?_
          refine lv_isub (pc := 38) hx hb dX9_faultOfStanding_38 ?_
          refine lv_i2l (pc := 39) (v := (Int32.toInt64 (v6 - (1 : Int32)))) hx hb dX9_faultOfStanding_39 rfl ?_
          obtain ⟨v7, hv40, hf⟩ := bd_e hf
          refine ro_Si (pc := 40) (As := [.long (Int32.toInt64 (v5 - (48 : Int32))), .long (0 : Int64), .long (Int32.toInt64 (v6 - (1 : Int32)))]) (rest := []) E (c_X9_in l D cI cJ cZ cS (Int32.toInt64 (v5 - (48 : Int32))) (0 : Int64) (Int32.toInt64 (v6 - (1 : Int32))) v7 hv40) F_X9_in tw_793 tw_794  va_P_nil ⟨by decide, by decide⟩ rfl hl.1 (Nat.le_of_ble_eq_true rfl) ⟨by decide, by decide⟩ rfl dX9_faultOfStanding_40 ?_
          refine r_if_eq (pc := 43) (tgt := 55) hx hb dX9_faultOfStanding_43 (by decide) hf (fun hf => ?_) (fun hf => ?_)
          · refine lv_iload_n (pc := 55) hx hb dX9_faultOfStanding_55 rfl (lv_at hl 3 rfl) ?_
            exact hQ _ _ _ dX9_faultOfStanding_56 hf
          · refine lv_iload_n (pc := 46) hx hb dX9_faultOfStanding_46 rfl (lv_at hl 2 rfl) ?_
            refine lv_iload_n (pc := 47) hx hb dX9_faultOfStanding_47 rfl (lv_at hl 0 rfl) ?_
            refine lv_ishr (pc := 48) hx hb dX9_faultOfStanding_48 ?_
            refine lv_iconst (pc := 49) (v := (1 : Int32)) hx hb dX9_faultOfStanding_49 (by decide) ?_
            refine lv_iand (pc := 50) hx hb dX9_faultOfStanding_50 ?_
            refine lv_iconst (pc := 51) (v := (1 : Int32)) hx hb dX9_faultOfStanding_51 (by decide) ?_
            refine r_ic_ne (pc := 52) (tgt := 57) hx hb dX9_faultOfStanding_52 (by decide) hf (fun hf => ?_) (fun hf => ?_)
            · refine lv_iload_n (pc := 57) hx hb dX9_faultOfStanding_57 rfl (lv_at hl 2 rfl) ?_
              refine lv_iconst (pc := 58) (v := (1 : Int32)) hx hb dX9_faultOfStanding_58 (by decide) ?_
              refine lv_iload_n (pc := 59) hx hb dX9_faultOfStanding_59 rfl (lv_at hl 0 rfl) ?_
              refine lv_ishl (pc := 60) hx hb dX9_faultOfStanding_60 ?_
              refine lv_ior (pc := 61) hx hb dX9_faultOfStanding_61 ?_
              refine lv_istore_n (pc := 62) (lv' := [(1, .int (y1 ||| ((1 : Int32) <<< ((v5 - (48 : Int32)) &&& 31)))), (3, .int (v5 - (48 : Int32))), (0, .ref mo_A), (2, .int y2)]) hx hb dX9_faultOfStanding_62 rfl hl (by decide) rfl (fun ls hl => ?_)
              refine lv_iinc (pc := 63) (v := (y2 + (1 : Int32))) (lv' := [(2, .int (y2 + (1 : Int32))), (1, .int (y1 ||| ((1 : Int32) <<< ((v5 - (48 : Int32)) &&& 31)))), (3, .int (v5 - (48 : Int32))), (0, .ref mo_A)]) hx hb dX9_faultOfStanding_63 hl (k := 3) rfl (by rfl) (by decide) rfl (fun ls hl => ?_)
              refine lv_goto (pc := 66) (tgt := 4) hx hb dX9_faultOfStanding_66 (by decide) ?_
              exact ih _ _ _ hf (lv_sub hl [3, 1, 0] rfl)
            · refine lv_iload_n (pc := 55) hx hb dX9_faultOfStanding_55 rfl (lv_at hl 3 rfl) ?_
              exact hQ _ _ _ dX9_faultOfStanding_56 hf
  exact L4 N _ _ _ hf (lv_sub hl [2, 1, 0] rfl)
theorem F_X9_fault : CalF yX9_fault cX9_fault 2 (some .int) 1 := ⟨tw_817, tw_10, by decide +kernel⟩
set_option maxRecDepth 100000 in
set_option maxHeartbeats 4000000 in
theorem c_X9_fault (l : Launch) (D : va_G) (cI cJ cZ cS : ClassId) (N : Nat) (mo_A mo_looks_A mo_period_A mo_shut_A mo_phase_A mo_quarters_A mo_tall_A mo_pairs_A mo_pad_A mo_cuts_A mo_at_A mo_first_A mo_kept_A mo_isKept_A : Nat) (mo_people : Int32) (mo_shots : Int32) (mo_looks : Nat → Int32) (mo_bride : Int32) (mo_hands : Int32) (mo_period : Nat → Int32) (mo_shut : Nat → Int32) (mo_phase : Nat → Int32) (mo_flash : Int32) (mo_quarters : Nat → Int32) (mo_tired : Int32) (mo_rows : Int32) (mo_columns : Int32) (mo_rise : Int32) (mo_tall : Nat → Int32) (mo_pairs : Nat → Int32) (mo_pad : Nat → Int32) (mo_padMany : Int32) (mo_cuts : Nat → Int32) (mo_at : Nat → Int32) (mo_first : Nat → Int32) (mo_kept : Nat → Int32) (mo_isKept : Nat → Int32) (mo_keptAt : Int32) (mo_isWriting : Int32) (p1 : Int32) (r : Int32) (hf : f_X9_fault N mo_people mo_rows mo_columns mo_pad mo_padMany p1 = some r) : RoC l D cI cJ cZ cS yX9_fault cX9_fault 2 (some .int) 2 48 (w_X9 cI cJ cZ cS mo_A mo_looks_A mo_period_A mo_shut_A mo_phase_A mo_quarters_A mo_tall_A mo_pairs_A mo_pad_A mo_cuts_A mo_at_A mo_first_A mo_kept_A mo_isKept_A mo_people mo_shots mo_looks mo_bride mo_hands mo_period mo_shut mo_phase mo_flash mo_quarters mo_tired mo_rows mo_columns mo_rise mo_tall mo_pairs mo_pad mo_padMany mo_cuts mo_at mo_first mo_kept mo_isKept mo_keptAt mo_isWriting) [.ref mo_A, .int p1] (some (.int r)) := by
  refine ro_in_i (own := RX9) (by decide +kernel) rfl (Nat.le_of_ble_eq_true rfl) ?_
  intro p e s m args below meth c ls Q E hQ hP hl
  obtain ⟨hx, hb, hml, hown, hts, hK, hN, hAO⟩ := id E
  have hl : lv_has ls 2 [(0, .ref mo_A), (1, .int p1)] := hl
  unfold f_X9_fault at hf
  refine lv_iload_n (pc := 0) hx hb dX9_fault_0 rfl (lv_at hl 1 rfl) ?_
  refine r_if_ne (pc := 1) (tgt := 11) hx hb dX9_fault_1 (by decide) hf (fun hf => ?_) (fun hf => ?_)
  · refine lv_iload_n (pc := 11) hx hb dX9_fault_11 rfl (lv_at hl 1 rfl) ?_
    refine lv_iconst (pc := 12) (v := (1 : Int32)) hx hb dX9_fault_12 (by decide) ?_
    refine r_ic_ne (pc := 13) (tgt := 23) hx hb dX9_fault_13 (by decide) hf (fun hf => ?_) (fun hf => ?_)
    · refine lv_bipush (pc := 23) (v := (-2 : Int32)) hx hb dX9_fault_23 (by decide) ?_
      exact hQ _ _ _ dX9_fault_25 hf
    · refine lv_aload_n (pc := 16) hx hb dX9_fault_16 rfl (lv_at hl 0 rfl) ?_
      obtain ⟨v1, hv17, hf⟩ := bd_e hf
      refine ro_Vi (pc := 17) (As := []) (rest := []) E (c_X9_faultOfStanding l D cI cJ cZ cS N mo_A mo_looks_A mo_period_A mo_shut_A mo_phase_A mo_quarters_A mo_tall_A mo_pairs_A mo_pad_A mo_cuts_A mo_at_A mo_first_A mo_kept_A mo_isKept_A mo_people mo_shots mo_looks mo_bride mo_hands mo_period mo_shut mo_phase mo_flash mo_quarters mo_tired mo_rows mo_columns mo_rise mo_tall mo_pairs mo_pad mo_padMany mo_cuts mo_at mo_first mo_kept mo_isKept mo_keptAt mo_isWriting v1 hv17) F_X9_faultOfStanding rfl rfl tw_825 tw_827 tp_24 hP ⟨by decide, by decide⟩ rfl hl.1 (Nat.le_of_ble_eq_true rfl) ⟨by decide, by decide⟩ rfl dX9_fault_17 ?_
      refine lv_goto (pc := 20) (tgt := 25) hx hb dX9_fault_20 (by decide) ?_
      exact hQ _ _ _ dX9_fault_25 hf
  · refine lv_aload_n (pc := 4) hx hb dX9_fault_4 rfl (lv_at hl 0 rfl) ?_
    obtain ⟨v2, hv5, hf⟩ := bd_e hf
    refine ro_Vi (pc := 5) (As := []) (rest := []) E (c_X9_faultOfShot l D cI cJ cZ cS N mo_A mo_looks_A mo_period_A mo_shut_A mo_phase_A mo_quarters_A mo_tall_A mo_pairs_A mo_pad_A mo_cuts_A mo_at_A mo_first_A mo_kept_A mo_isKept_A mo_people mo_shots mo_looks mo_bride mo_hands mo_period mo_shut mo_phase mo_flash mo_quarters mo_tired mo_rows mo_columns mo_rise mo_tall mo_pairs mo_pad mo_padMany mo_cuts mo_at mo_first mo_kept mo_isKept mo_keptAt mo_isWriting v2 hv5) F_X9_faultOfShot rfl rfl tw_818 tw_820 tp_23 hP ⟨by decide, by decide⟩ rfl hl.1 (Nat.le_of_ble_eq_true rfl) ⟨by decide, by decide⟩ rfl dX9_fault_5 ?_
    refine lv_goto (pc := 8) (tgt := 25) hx hb dX9_fault_8 (by decide) ?_
    exact hQ _ _ _ dX9_fault_25 hf
theorem F_X9_shot : CalF yX9_shot cX9_shot 2 (some .int) 0 := ⟨tw_836, tw_10, by decide +kernel⟩
set_option maxRecDepth 100000 in
set_option maxHeartbeats 4000000 in
theorem c_X9_shot (l : Launch) (D : va_G) (cI cJ cZ cS : ClassId) (N : Nat) (mo_A mo_looks_A mo_period_A mo_shut_A mo_phase_A mo_quarters_A mo_tall_A mo_pairs_A mo_pad_A mo_cuts_A mo_at_A mo_first_A mo_kept_A mo_isKept_A : Nat) (mo_people : Int32) (mo_shots : Int32) (mo_looks : Nat → Int32) (mo_bride : Int32) (mo_hands : Int32) (mo_period : Nat → Int32) (mo_shut : Nat → Int32) (mo_phase : Nat → Int32) (mo_flash : Int32) (mo_quarters : Nat → Int32) (mo_tired : Int32) (mo_rows : Int32) (mo_columns : Int32) (mo_rise : Int32) (mo_tall : Nat → Int32) (mo_pairs : Nat → Int32) (mo_pad : Nat → Int32) (mo_padMany : Int32) (mo_cuts : Nat → Int32) (mo_at : Nat → Int32) (mo_first : Nat → Int32) (mo_kept : Nat → Int32) (mo_isKept : Nat → Int32) (mo_keptAt : Int32) (mo_isWriting : Int32) (sz : Nat) (r : Int32) (r_mo_shots : Int32) (r_mo_padMany : Int32) (r_mo_looks : Nat → Int32) (hf : f_X9_shot N mo_people mo_shots mo_looks mo_pad mo_padMany = some (r, r_mo_shots, r_mo_padMany, r_mo_looks)) : RwC l D cI cJ cZ cS yX9_shot cX9_shot 2 (some .int) 2 41 (w_X9 cI cJ cZ cS mo_A mo_looks_A mo_period_A mo_shut_A mo_phase_A mo_quarters_A mo_tall_A mo_pairs_A mo_pad_A mo_cuts_A mo_at_A mo_first_A mo_kept_A mo_isKept_A mo_people mo_shots mo_looks mo_bride mo_hands mo_period mo_shut mo_phase mo_flash mo_quarters mo_tired mo_rows mo_columns mo_rise mo_tall mo_pairs mo_pad mo_padMany mo_cuts mo_at mo_first mo_kept mo_isKept mo_keptAt mo_isWriting) sz [.ref mo_A] (some (.int r)) (w_X9 cI cJ cZ cS mo_A mo_looks_A mo_period_A mo_shut_A mo_phase_A mo_quarters_A mo_tall_A mo_pairs_A mo_pad_A mo_cuts_A mo_at_A mo_first_A mo_kept_A mo_isKept_A mo_people r_mo_shots r_mo_looks mo_bride mo_hands mo_period mo_shut mo_phase mo_flash mo_quarters mo_tired mo_rows mo_columns mo_rise mo_tall mo_pairs mo_pad r_mo_padMany mo_cuts mo_at mo_first mo_kept mo_isKept mo_keptAt mo_isWriting) := by
  refine rw_in_i (own := RX9) (by decide +kernel) rfl (Nat.le_of_ble_eq_true rfl) ?_
  intro p e s m args below meth c ls Q A E hA hQ hP hD hS hl
  obtain ⟨hx, hb, hml, hown, hts, hK, hN, hAO⟩ := id E
  have hl : lv_has ls 2 [(0, .ref mo_A)] := hl
  unfold f_X9_shot at hf
  obtain ⟨H, hH⟩ : ∃ H, H = s.heap := ⟨_, rfl⟩
  obtain ⟨locs, hlocs⟩ : ∃ L : List Loc, L = [] := ⟨_, rfl⟩
  rw [show W p l e (roR 2 41) s m args below meth c s.heap [] 0 0 Q (F0 m 0 ls []) = W p l e (roR 2 41) s m args below meth c H locs 0 0 Q (F0 m 0 ls []) by rw [hH, hlocs]]
  replace hS : va_S A s.heap H locs := by rw [hH, hlocs]; exact hS
  replace hP : va_P D vwCl (w_X9 cI cJ cZ cS mo_A mo_looks_A mo_period_A mo_shut_A mo_phase_A mo_quarters_A mo_tall_A mo_pairs_A mo_pad_A mo_cuts_A mo_at_A mo_first_A mo_kept_A mo_isKept_A mo_people mo_shots mo_looks mo_bride mo_hands mo_period mo_shut mo_phase mo_flash mo_quarters mo_tired mo_rows mo_columns mo_rise mo_tall mo_pairs mo_pad mo_padMany mo_cuts mo_at mo_first mo_kept mo_isKept mo_keptAt mo_isWriting) H := by rw [hH]; exact hP
  clear hH hlocs
  refine lv_aload_n (pc := 0) hx hb dX9_shot_0 rfl (lv_at hl 0 rfl) ?_
  obtain ⟨v1, hv1, hf⟩ := bd_e hf
  refine ro_Vi (pc := 1) (As := []) (rest := []) E (c_X9_faultOfShot l D cI cJ cZ cS N mo_A mo_looks_A mo_period_A mo_shut_A mo_phase_A mo_quarters_A mo_tall_A mo_pairs_A mo_pad_A mo_cuts_A mo_at_A mo_first_A mo_kept_A mo_isKept_A mo_people mo_shots mo_looks mo_bride mo_hands mo_period mo_shut mo_phase mo_flash mo_quarters mo_tired mo_rows mo_columns mo_rise mo_tall mo_pairs mo_pad mo_padMany mo_cuts mo_at mo_first mo_kept mo_isKept mo_keptAt mo_isWriting v1 hv1) F_X9_faultOfShot rfl rfl tw_818 tw_820 tp_23 hP ⟨by decide, by decide⟩ rfl hl.1 (Nat.le_of_ble_eq_true rfl) ⟨by decide, by decide⟩ rfl dX9_shot_1 ?_
  refine r_if_lt (pc := 4) (tgt := 10) hx hb dX9_shot_4 (by decide) hf (fun hf => ?_) (fun hf => ?_)
  · refine lv_aload_n (pc := 10) hx hb dX9_shot_10 rfl (lv_at hl 0 rfl) ?_
    refine va_get (pc := 11) (D := D) (ci := 9) (v := .int mo_shots) (C := RX9) (T := TX9) (N := 25) hx hb hts inG9 hown hK hP 0 rfl rfl 1 (by decide) (hts _ tw_712) (fun _ h9 => h9) rfl dX9_shot_11 ?_
    refine lv_bipush (pc := 14) (v := (10 : Int32)) hx hb dX9_shot_14 (by decide) ?_
    refine r_ic_ne (pc := 16) (tgt := 22) hx hb dX9_shot_16 (by decide) hf (fun hf => ?_) (fun hf => ?_)
    · refine lv_iconst (pc := 22) (v := (0 : Int32)) hx hb dX9_shot_22 (by decide) ?_
      refine lv_istore_n (pc := 23) (lv' := [(1, .int (0 : Int32)), (0, .ref mo_A)]) hx hb dX9_shot_23 rfl hl (by decide) rfl (fun ls hl => ?_)
      obtain ⟨k5, hk5, hf⟩ := lc1_e hf
      have K5 : ∀ (mo_looks_6 : Nat → Int32) (H : Heap) (locs : List Loc) (ls : Array Slot), k5 mo_looks_6 = some (r, r_mo_shots, r_mo_padMany, r_mo_looks) → va_P D vwCl (w_X9 cI cJ cZ cS mo_A mo_looks_A mo_period_A mo_shut_A mo_phase_A mo_quarters_A mo_tall_A mo_pairs_A mo_pad_A mo_cuts_A mo_at_A mo_first_A mo_kept_A mo_isKept_A mo_people mo_shots mo_looks_6 mo_bride mo_hands mo_period mo_shut mo_phase mo_flash mo_quarters mo_tired mo_rows mo_columns mo_rise mo_tall mo_pairs mo_pad mo_padMany mo_cuts mo_at mo_first mo_kept mo_isKept mo_keptAt mo_isWriting) H → va_D A (w_X9 cI cJ cZ cS mo_A mo_looks_A mo_period_A mo_shut_A mo_phase_A mo_quarters_A mo_tall_A mo_pairs_A mo_pad_A mo_cuts_A mo_at_A mo_first_A mo_kept_A mo_isKept_A mo_people mo_shots mo_looks_6 mo_bride mo_hands mo_period mo_shut mo_phase mo_flash mo_quarters mo_tired mo_rows mo_columns mo_rise mo_tall mo_pairs mo_pad mo_padMany mo_cuts mo_at mo_first mo_kept mo_isKept mo_keptAt mo_isWriting) → va_S A s.heap H locs → lv_has ls 2 [(0, .ref mo_A)] → W p l e (roR 2 41) s m args below meth c H locs 0 0 Q (F0 m 58 ls []) := by
        intro mo_looks_6 H locs ls hf hP hD hS hl
        rw [hk5] at hf
        refine lv_aload_n (pc := 58) hx hb dX9_shot_58 rfl (lv_at hl 0 rfl) ?_
        refine lv_iconst (pc := 59) (v := (0 : Int32)) hx hb dX9_shot_59 (by decide) ?_
        refine va_put (pc := 60) (D := D) (ci := 9) (v := .int (0 : Int32)) (ty := .int) (C := RX9) (T := TX9) (N := 25) hx hb hts inG9 tyX9 tyX9_ok nmX9 hown hK hP hD hS 0 rfl rfl 17 (by decide) (hts _ tw_728) (fun _ h9 => h9) rfl (by decide +kernel) rfl rfl (Nat.le_of_ble_eq_true rfl) dX9_shot_60 (fun H locs hP hD hS => ?_)
        have hP : va_P D vwCl (w_X9 cI cJ cZ cS mo_A mo_looks_A mo_period_A mo_shut_A mo_phase_A mo_quarters_A mo_tall_A mo_pairs_A mo_pad_A mo_cuts_A mo_at_A mo_first_A mo_kept_A mo_isKept_A mo_people mo_shots mo_looks_6 mo_bride mo_hands mo_period mo_shut mo_phase mo_flash mo_quarters mo_tired mo_rows mo_columns mo_rise mo_tall mo_pairs mo_pad (0 : Int32) mo_cuts mo_at mo_first mo_kept mo_isKept mo_keptAt mo_isWriting) H := hP
        have hD : va_D A (w_X9 cI cJ cZ cS mo_A mo_looks_A mo_period_A mo_shut_A mo_phase_A mo_quarters_A mo_tall_A mo_pairs_A mo_pad_A mo_cuts_A mo_at_A mo_first_A mo_kept_A mo_isKept_A mo_people mo_shots mo_looks_6 mo_bride mo_hands mo_period mo_shut mo_phase mo_flash mo_quarters mo_tired mo_rows mo_columns mo_rise mo_tall mo_pairs mo_pad (0 : Int32) mo_cuts mo_at mo_first mo_kept mo_isKept mo_keptAt mo_isWriting) := hD
        refine lv_aload_n (pc := 63) hx hb dX9_shot_63 rfl (lv_at hl 0 rfl) ?_
        refine lv_dup (pc := 64) hx hb dX9_shot_64 rfl ?_
        refine va_get (pc := 65) (D := D) (ci := 9) (v := .int mo_shots) (C := RX9) (T := TX9) (N := 25) hx hb hts inG9 hown hK hP 0 rfl rfl 1 (by decide) (hts _ tw_712) (fun _ h9 => h9) rfl dX9_shot_65 ?_
        refine lv_iconst (pc := 68) (v := (1 : Int32)) hx hb dX9_shot_68 (by decide) ?_
        refine lv_iadd (pc := 69) hx hb dX9_shot_69 ?_
        refine va_put (pc := 70) (D := D) (ci := 9) (v := .int (mo_shots + (1 : Int32))) (ty := .int) (C := RX9) (T := TX9) (N := 25) hx hb hts inG9 tyX9 tyX9_ok nmX9 hown hK hP hD hS 0 rfl rfl 1 (by decide) (hts _ tw_712) (fun _ h9 => h9) rfl (by decide +kernel) rfl rfl (Nat.le_of_ble_eq_true rfl) dX9_shot_70 (fun H locs hP hD hS => ?_)
        have hP : va_P D vwCl (w_X9 cI cJ cZ cS mo_A mo_looks_A mo_period_A mo_shut_A mo_phase_A mo_quarters_A mo_tall_A mo_pairs_A mo_pad_A mo_cuts_A mo_at_A mo_first_A mo_kept_A mo_isKept_A mo_people (mo_shots + (1 : Int32)) mo_looks_6 mo_bride mo_hands mo_period mo_shut mo_phase mo_flash mo_quarters mo_tired mo_rows mo_columns mo_rise mo_tall mo_pairs mo_pad (0 : Int32) mo_cuts mo_at mo_first mo_kept mo_isKept mo_keptAt mo_isWriting) H := hP
        have hD : va_D A (w_X9 cI cJ cZ cS mo_A mo_looks_A mo_period_A mo_shut_A mo_phase_A mo_quarters_A mo_tall_A mo_pairs_A mo_pad_A mo_cuts_A mo_at_A mo_first_A mo_kept_A mo_isKept_A mo_people (mo_shots + (1 : Int32)) mo_looks_6 mo_bride mo_hands mo_period mo_shut mo_phase mo_flash mo_quarters mo_tired mo_rows mo_columns mo_rise mo_tall mo_pairs mo_pad (0 : Int32) mo_cuts mo_at mo_first mo_kept mo_isKept mo_keptAt mo_isWriting) := hD
        refine lv_aload_n (pc := 73) hx hb dX9_shot_73 rfl (lv_at hl 0 rfl) ?_
        refine va_get (pc := 74) (D := D) (ci := 9) (v := .int (mo_shots + (1 : Int32))) (C := RX9) (T := TX9) (N := 25) hx hb hts inG9 hown hK hP 0 rfl rfl 1 (by decide) (hts _ tw_712) (fun _ h9 => h9) rfl dX9_shot_74 ?_
        refine lv_iconst (pc := 77) (v := (1 : Int32)) hx hb dX9_shot_77 (by decide) ?_
        refine lv_isub (pc := 78) hx hb dX9_shot_78 ?_
        cases hf
        exact hQ _ _ _ _ _ dX9_shot_79 rfl hP hD hS
      have L24 : ∀ (n : Nat), ∀ (y2 : Int32) (mo_looks_3 : Nat → Int32) (H : Heap) (locs : List Loc) (ls : Array Slot), f_X9_shot_L24 mo_people mo_shots mo_pad k5 n y2 mo_looks_3 = some (r, r_mo_shots, r_mo_padMany, r_mo_looks) → va_P D vwCl (w_X9 cI cJ cZ cS mo_A mo_looks_A mo_period_A mo_shut_A mo_phase_A mo_quarters_A mo_tall_A mo_pairs_A mo_pad_A mo_cuts_A mo_at_A mo_first_A mo_kept_A mo_isKept_A mo_people mo_shots mo_looks_3 mo_bride mo_hands mo_period mo_shut mo_phase mo_flash mo_quarters mo_tired mo_rows mo_columns mo_rise mo_tall mo_pairs mo_pad mo_padMany mo_cuts mo_at mo_first mo_kept mo_isKept mo_keptAt mo_isWriting) H → va_D A (w_X9 cI cJ cZ cS mo_A mo_looks_A mo_period_A mo_shut_A mo_phase_A mo_quarters_A mo_tall_A mo_pairs_A mo_pad_A mo_cuts_A mo_at_A mo_first_A mo_kept_A mo_isKept_A mo_people mo_shots mo_looks_3 mo_bride mo_hands mo_period mo_shut mo_phase mo_flash mo_quarters mo_tired mo_rows mo_columns mo_rise mo_tall mo_pairs mo_pad mo_padMany mo_cuts mo_at mo_first mo_kept mo_isKept mo_keptAt mo_isWriting) → va_S A s.heap H locs → lv_has ls 2 [(0, .ref mo_A), (1, .int y2)] → W p l e (roR 2 41) s m args below meth c H locs 0 0 Q (F0 m 24 ls []) := by
        intro n
        induction n with
        | zero =>
          intro y2 mo_looks_3 H locs ls hf
          rw [f_X9_shot_L24] at hf
          cases hf
        | succ n ih =>
          intro y2 mo_looks_3 H locs ls hf hP hD hS hl
          rw [f_X9_shot_L24] at hf
          refine lv_iload_n (pc := 24) hx hb dX9_shot_24 rfl (lv_at hl 1 rfl) ?_
          refine lv_aload_n (pc := 25) hx hb dX9_shot_25 rfl (lv_at hl 0 rfl) ?_
          refine va_get (pc := 26) (D := D) (ci := 9) (v := .int mo_people) (C := RX9) (T := TX9) (N := 25) hx hb hts inG9 hown hK hP 0 rfl rfl 0 (by decide) (hts _ tw_711) (fun _ h9 => h9) rfl dX9_shot_26 ?_
          refine r_ic_ge (pc := 29) (tgt := 58) hx hb dX9_shot_29 (by decide) hf (fun hf => ?_) (fun hf => ?_)
          · exact K5 _ _ _ _ hf hP hD hS (lv_sub hl [0] rfl)
          · refine lv_aload_n (pc := 32) hx hb dX9_shot_32 rfl (lv_at hl 0 rfl) ?_
            refine va_get (pc := 33) (D := D) (ci := 9) (v := .ref mo_looks_A) (C := RX9) (T := TX9) (N := 25) hx hb hts inG9 hown hK hP 0 rfl rfl 2 (by decide) (hts _ tw_713) (fun _ h9 => h9) rfl dX9_shot_33 ?_
            refine lv_bipush (pc := 36) (v := (8 : Int32)) hx hb dX9_shot_36 (by decide) ?_
            refine lv_aload_n (pc := 38) hx hb dX9_shot_38 rfl (lv_at hl 0 rfl) ?_
            refine va_get (pc := 39) (D := D) (ci := 9) (v := .int mo_shots) (C := RX9) (T := TX9) (N := 25) hx hb hts inG9 hown hK hP 0 rfl rfl 1 (by decide) (hts _ tw_712) (fun _ h9 => h9) rfl dX9_shot_39 ?_
            refine lv_imul (pc := 42) hx hb dX9_shot_42 ?_
            refine lv_iload_n (pc := 43) hx hb dX9_shot_43 rfl (lv_at hl 1 rfl) ?_
            refine lv_iadd (pc := 44) hx hb dX9_shot_44 ?_
            refine lv_aload_n (pc := 45) hx hb dX9_shot_45 rfl (lv_at hl 0 rfl) ?_
            refine va_get (pc := 46) (D := D) (ci := 9) (v := .ref mo_pad_A) (C := RX9) (T := TX9) (N := 25) hx hb hts inG9 hown hK hP 0 rfl rfl 16 (by decide) (hts _ tw_727) (fun _ h9 => h9) rfl dX9_shot_46 ?_
            refine lv_iload_n (pc := 49) hx hb dX9_shot_49 rfl (lv_at hl 1 rfl) ?_
            refine r_iald (pc := 50) hx hb hK hP 8 0 rfl rfl hf dX9_shot_50 (fun v7 hf => ?_)
            refine r_iast (pc := 51) hx hb hK hP hD hS 1 0 rfl rfl hf dX9_shot_51 (fun mo_looks_8 H locs hf hP hD hS => ?_)
            have hP : va_P D vwCl (w_X9 cI cJ cZ cS mo_A mo_looks_A mo_period_A mo_shut_A mo_phase_A mo_quarters_A mo_tall_A mo_pairs_A mo_pad_A mo_cuts_A mo_at_A mo_first_A mo_kept_A mo_isKept_A mo_people mo_shots mo_looks_8 mo_bride mo_hands mo_period mo_shut mo_phase mo_flash mo_quarters mo_tired mo_rows mo_columns mo_rise mo_tall mo_pairs mo_pad mo_padMany mo_cuts mo_at mo_first mo_kept mo_isKept mo_keptAt mo_isWriting) H := hP
            have hD : va_D A (w_X9 cI cJ cZ cS mo_A mo_looks_A mo_period_A mo_shut_A mo_phase_A mo_quarters_A mo_tall_A mo_pairs_A mo_pad_A mo_cuts_A mo_at_A mo_first_A mo_kept_A mo_isKept_A mo_people mo_shots mo_looks_8 mo_bride mo_hands mo_period mo_shut mo_phase mo_flash mo_quarters mo_tired mo_rows mo_columns mo_rise mo_tall mo_pairs mo_pad mo_padMany mo_cuts mo_at mo_first mo_kept mo_isKept mo_keptAt mo_isWriting) := hD
            refine lv_iinc (pc := 52) (v := (y2 + (1 : Int32))) (lv' := [(1, .int (y2 + (1 : Int32))), (0, .ref mo_A)]) hx hb dX9_shot_52 hl (k := 1) rfl (by rfl) (by decide) rfl (fun ls hl => ?_)
            refine lv_goto (pc := 55) (tgt := 24) hx hb dX9_shot_55 (by decide) ?_
            exact ih _ _ _ _ _ hf hP hD hS (lv_sub hl [1, 0] rfl)
      exact L24 N _ _ _ _ _ hf hP hD hS (lv_sub hl [1, 0] rfl)
    · refine lv_bipush (pc := 19) (v := (-4 : Int32)) hx hb dX9_shot_19 (by decide) ?_
      cases hf
      exact hQ _ _ _ _ _ dX9_shot_21 rfl hP hD hS
  · refine lv_bipush (pc := 7) (v := (-5 : Int32)) hx hb dX9_shot_7 (by decide) ?_
    cases hf
    exact hQ _ _ _ _ _ dX9_shot_9 rfl hP hD hS
theorem F_X9_look : CalF yX9_look cX9_look 3 (some .int) 2 := ⟨tw_840, tw_10, by decide +kernel⟩
set_option maxRecDepth 100000 in
set_option maxHeartbeats 4000000 in
theorem c_X9_look (l : Launch) (D : va_G) (cI cJ cZ cS : ClassId) (mo_A mo_looks_A mo_period_A mo_shut_A mo_phase_A mo_quarters_A mo_tall_A mo_pairs_A mo_pad_A mo_cuts_A mo_at_A mo_first_A mo_kept_A mo_isKept_A : Nat) (mo_people : Int32) (mo_shots : Int32) (mo_looks : Nat → Int32) (mo_bride : Int32) (mo_hands : Int32) (mo_period : Nat → Int32) (mo_shut : Nat → Int32) (mo_phase : Nat → Int32) (mo_flash : Int32) (mo_quarters : Nat → Int32) (mo_tired : Int32) (mo_rows : Int32) (mo_columns : Int32) (mo_rise : Int32) (mo_tall : Nat → Int32) (mo_pairs : Nat → Int32) (mo_pad : Nat → Int32) (mo_padMany : Int32) (mo_cuts : Nat → Int32) (mo_at : Nat → Int32) (mo_first : Nat → Int32) (mo_kept : Nat → Int32) (mo_isKept : Nat → Int32) (mo_keptAt : Int32) (mo_isWriting : Int32) (p1 : Int32) (p2 : Int32) (r : Int32) (hf : f_X9_look mo_people mo_shots mo_looks p1 p2 = some r) : RoC l D cI cJ cZ cS yX9_look cX9_look 3 (some .int) 2 46 (w_X9 cI cJ cZ cS mo_A mo_looks_A mo_period_A mo_shut_A mo_phase_A mo_quarters_A mo_tall_A mo_pairs_A mo_pad_A mo_cuts_A mo_at_A mo_first_A mo_kept_A mo_isKept_A mo_people mo_shots mo_looks mo_bride mo_hands mo_period mo_shut mo_phase mo_flash mo_quarters mo_tired mo_rows mo_columns mo_rise mo_tall mo_pairs mo_pad mo_padMany mo_cuts mo_at mo_first mo_kept mo_isKept mo_keptAt mo_isWriting) [.ref mo_A, .int p1, .int p2] (some (.int r)) := by
  refine ro_in_i (own := RX9) (by decide +kernel) rfl (Nat.le_of_ble_eq_true rfl) ?_
  intro p e s m args below meth c ls Q E hQ hP hl
  obtain ⟨hx, hb, hml, hown, hts, hK, hN, hAO⟩ := id E
  have hl : lv_has ls 3 [(0, .ref mo_A), (1, .int p1), (2, .int p2)] := hl
  unfold f_X9_look at hf
  refine lv_iload_n (pc := 0) hx hb dX9_look_0 rfl (lv_at hl 1 rfl) ?_
  refine lv_i2l (pc := 1) (v := (Int32.toInt64 p1)) hx hb dX9_look_1 rfl ?_
  refine lv_lconst (pc := 2) (v := (0 : Int64)) hx hb dX9_look_2 (by decide) ?_
  refine lv_aload_n (pc := 3) hx hb dX9_look_3 rfl (lv_at hl 0 rfl) ?_
  refine va_get (pc := 4) (D := D) (ci := 9) (v := .int mo_shots) (C := RX9) (T := TX9) (N := 25) hx hb hts inG9 hown hK hP 0 rfl rfl 1 (by decide) (hts _ tw_712) (fun _ h9 => h9) rfl dX9_look_4 ?_
  refine lv_iconst (pc := 7) (v := (1 : Int32)) hx hb dX9_look_7 (by decide) ?_
  refine lv_isub (pc := 8) hx hb dX9_look_8 ?_
  refine lv_i2l (pc := 9) (v := (Int32.toInt64 (mo_shots - (1 : Int32)))) hx hb dX9_look_9 rfl ?_
  obtain ⟨v1, hv10, hf⟩ := bd_e hf
  refine ro_Si (pc := 10) (As := [.long (Int32.toInt64 p1), .long (0 : Int64), .long (Int32.toInt64 (mo_shots - (1 : Int32)))]) (rest := []) E (c_X9_in l D cI cJ cZ cS (Int32.toInt64 p1) (0 : Int64) (Int32.toInt64 (mo_shots - (1 : Int32))) v1 hv10) F_X9_in tw_793 tw_794  va_P_nil ⟨by decide, by decide⟩ rfl hl.1 (Nat.le_of_ble_eq_true rfl) ⟨by decide, by decide⟩ rfl dX9_look_10 ?_
  refine r_if_eq (pc := 13) (tgt := 38) hx hb dX9_look_13 (by decide) hf (fun hf => ?_) (fun hf => ?_)
  · refine lv_iconst (pc := 38) (v := (-1 : Int32)) hx hb dX9_look_38 (by decide) ?_
    exact hQ _ _ _ dX9_look_39 hf
  · refine lv_aload_n (pc := 16) hx hb dX9_look_16 rfl (lv_at hl 0 rfl) ?_
    refine lv_iload_n (pc := 17) hx hb dX9_look_17 rfl (lv_at hl 2 rfl) ?_
    obtain ⟨v2, hv18, hf⟩ := bd_e hf
    refine ro_Vi (pc := 18) (As := [.int p2]) (rest := []) E (c_X9_isPerson l D cI cJ cZ cS mo_A mo_looks_A mo_period_A mo_shut_A mo_phase_A mo_quarters_A mo_tall_A mo_pairs_A mo_pad_A mo_cuts_A mo_at_A mo_first_A mo_kept_A mo_isKept_A mo_people mo_shots mo_looks mo_bride mo_hands mo_period mo_shut mo_phase mo_flash mo_quarters mo_tired mo_rows mo_columns mo_rise mo_tall mo_pairs mo_pad mo_padMany mo_cuts mo_at mo_first mo_kept mo_isKept mo_keptAt mo_isWriting p2 v2 hv18) F_X9_isPerson rfl rfl tw_800 tw_802 tp_22 hP ⟨by decide, by decide⟩ rfl hl.1 (Nat.le_of_ble_eq_true rfl) ⟨by decide, by decide⟩ rfl dX9_look_18 ?_
    refine r_if_eq (pc := 21) (tgt := 38) hx hb dX9_look_21 (by decide) hf (fun hf => ?_) (fun hf => ?_)
    · refine lv_iconst (pc := 38) (v := (-1 : Int32)) hx hb dX9_look_38 (by decide) ?_
      exact hQ _ _ _ dX9_look_39 hf
    · refine lv_aload_n (pc := 24) hx hb dX9_look_24 rfl (lv_at hl 0 rfl) ?_
      refine va_get (pc := 25) (D := D) (ci := 9) (v := .ref mo_looks_A) (C := RX9) (T := TX9) (N := 25) hx hb hts inG9 hown hK hP 0 rfl rfl 2 (by decide) (hts _ tw_713) (fun _ h9 => h9) rfl dX9_look_25 ?_
      refine lv_bipush (pc := 28) (v := (8 : Int32)) hx hb dX9_look_28 (by decide) ?_
      refine lv_iload_n (pc := 30) hx hb dX9_look_30 rfl (lv_at hl 1 rfl) ?_
      refine lv_imul (pc := 31) hx hb dX9_look_31 ?_
      refine lv_iload_n (pc := 32) hx hb dX9_look_32 rfl (lv_at hl 2 rfl) ?_
      refine lv_iadd (pc := 33) hx hb dX9_look_33 ?_
      refine r_iald (pc := 34) hx hb hK hP 1 0 rfl rfl hf dX9_look_34 (fun v3 hf => ?_)
      refine lv_goto (pc := 35) (tgt := 39) hx hb dX9_look_35 (by decide) ?_
      exact hQ _ _ _ dX9_look_39 hf
theorem F_X9_isOpen : CalF yX9_isOpen cX9_isOpen 3 (some .boolean) 2 := ⟨tw_852, tw_10, by decide +kernel⟩
set_option maxRecDepth 100000 in
set_option maxHeartbeats 4000000 in
theorem c_X9_isOpen (l : Launch) (D : va_G) (cI cJ cZ cS : ClassId) (mo_A mo_looks_A mo_period_A mo_shut_A mo_phase_A mo_quarters_A mo_tall_A mo_pairs_A mo_pad_A mo_cuts_A mo_at_A mo_first_A mo_kept_A mo_isKept_A : Nat) (mo_people : Int32) (mo_shots : Int32) (mo_looks : Nat → Int32) (mo_bride : Int32) (mo_hands : Int32) (mo_period : Nat → Int32) (mo_shut : Nat → Int32) (mo_phase : Nat → Int32) (mo_flash : Int32) (mo_quarters : Nat → Int32) (mo_tired : Int32) (mo_rows : Int32) (mo_columns : Int32) (mo_rise : Int32) (mo_tall : Nat → Int32) (mo_pairs : Nat → Int32) (mo_pad : Nat → Int32) (mo_padMany : Int32) (mo_cuts : Nat → Int32) (mo_at : Nat → Int32) (mo_first : Nat → Int32) (mo_kept : Nat → Int32) (mo_isKept : Nat → Int32) (mo_keptAt : Int32) (mo_isWriting : Int32) (p1 : Int32) (p2 : Int32) (r : Int32) (hf : f_X9_isOpen mo_looks p1 p2 = some r) : RoC l D cI cJ cZ cS yX9_isOpen cX9_isOpen 3 (some .boolean) 0 0 (w_X9 cI cJ cZ cS mo_A mo_looks_A mo_period_A mo_shut_A mo_phase_A mo_quarters_A mo_tall_A mo_pairs_A mo_pad_A mo_cuts_A mo_at_A mo_first_A mo_kept_A mo_isKept_A mo_people mo_shots mo_looks mo_bride mo_hands mo_period mo_shut mo_phase mo_flash mo_quarters mo_tired mo_rows mo_columns mo_rise mo_tall mo_pairs mo_pad mo_padMany mo_cuts mo_at mo_first mo_kept mo_isKept mo_keptAt mo_isWriting) [.ref mo_A, .int p1, .int p2] (some (.int r)) := by
  refine ro_in_z (own := RX9) (by decide +kernel) rfl (Nat.le_of_ble_eq_true rfl) ?_
  intro p e s m args below meth c ls Q E hQ hP hl
  obtain ⟨hx, hb, hml, hown, hts, hK, hN, hAO⟩ := id E
  have hl : lv_has ls 3 [(0, .ref mo_A), (1, .int p1), (2, .int p2)] := hl
  unfold f_X9_isOpen at hf
  refine lv_aload_n (pc := 0) hx hb dX9_isOpen_0 rfl (lv_at hl 0 rfl) ?_
  refine va_get (pc := 1) (D := D) (ci := 9) (v := .ref mo_looks_A) (C := RX9) (T := TX9) (N := 25) hx hb hts inG9 hown hK hP 0 rfl rfl 2 (by decide) (hts _ tw_713) (fun _ h9 => h9) rfl dX9_isOpen_1 ?_
  refine lv_bipush (pc := 4) (v := (8 : Int32)) hx hb dX9_isOpen_4 (by decide) ?_
  refine lv_iload_n (pc := 6) hx hb dX9_isOpen_6 rfl (lv_at hl 1 rfl) ?_
  refine lv_imul (pc := 7) hx hb dX9_isOpen_7 ?_
  refine lv_iload_n (pc := 8) hx hb dX9_isOpen_8 rfl (lv_at hl 2 rfl) ?_
  refine lv_iadd (pc := 9) hx hb dX9_isOpen_9 ?_
  refine r_iald (pc := 10) hx hb hK hP 1 0 rfl rfl hf dX9_isOpen_10 (fun v1 hf => ?_)
  refine lv_bipush (pc := 11) (v := (111 : Int32)) hx hb dX9_isOpen_11 (by decide) ?_
  refine r_ic_ne (pc := 13) (tgt := 20) hx hb dX9_isOpen_13 (by decide) hf (fun hf => ?_) (fun hf => ?_)
  · refine lv_iconst (pc := 20) (v := (0 : Int32)) hx hb dX9_isOpen_20 (by decide) ?_
    exact hQ _ _ _ dX9_isOpen_21 rfl hf
  · refine lv_iconst (pc := 16) (v := (1 : Int32)) hx hb dX9_isOpen_16 (by decide) ?_
    refine lv_goto (pc := 17) (tgt := 21) hx hb dX9_isOpen_17 (by decide) ?_
    exact hQ _ _ _ dX9_isOpen_21 rfl hf
