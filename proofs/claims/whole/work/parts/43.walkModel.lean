theorem F_X9_findCuts : CalF yX9_findCuts cX9_findCuts 3 none 0 := ⟨tw_883, tw_10, by decide +kernel⟩
set_option maxRecDepth 100000 in
set_option maxHeartbeats 4000000 in
theorem c_X9_findCuts (l : Launch) (D : va_G) (cI cJ cZ cS : ClassId) (N : Nat) (mo_A mo_looks_A mo_period_A mo_shut_A mo_phase_A mo_quarters_A mo_tall_A mo_pairs_A mo_pad_A mo_cuts_A mo_at_A mo_first_A mo_kept_A mo_isKept_A : Nat) (mo_people : Int32) (mo_shots : Int32) (mo_looks : Nat → Int32) (mo_bride : Int32) (mo_hands : Int32) (mo_period : Nat → Int32) (mo_shut : Nat → Int32) (mo_phase : Nat → Int32) (mo_flash : Int32) (mo_quarters : Nat → Int32) (mo_tired : Int32) (mo_rows : Int32) (mo_columns : Int32) (mo_rise : Int32) (mo_tall : Nat → Int32) (mo_pairs : Nat → Int32) (mo_pad : Nat → Int32) (mo_padMany : Int32) (mo_cuts : Nat → Int32) (mo_at : Nat → Int32) (mo_first : Nat → Int32) (mo_kept : Nat → Int32) (mo_isKept : Nat → Int32) (mo_keptAt : Int32) (mo_isWriting : Int32) (sz : Nat) (r_mo_cuts : Nat → Int32) (hf : f_X9_findCuts N mo_people mo_shots mo_looks mo_hands mo_cuts = some r_mo_cuts) : RwC l D cI cJ cZ cS yX9_findCuts cX9_findCuts 3 none 2 48 (w_X9 cI cJ cZ cS mo_A mo_looks_A mo_period_A mo_shut_A mo_phase_A mo_quarters_A mo_tall_A mo_pairs_A mo_pad_A mo_cuts_A mo_at_A mo_first_A mo_kept_A mo_isKept_A mo_people mo_shots mo_looks mo_bride mo_hands mo_period mo_shut mo_phase mo_flash mo_quarters mo_tired mo_rows mo_columns mo_rise mo_tall mo_pairs mo_pad mo_padMany mo_cuts mo_at mo_first mo_kept mo_isKept mo_keptAt mo_isWriting) sz [.ref mo_A] none (w_X9 cI cJ cZ cS mo_A mo_looks_A mo_period_A mo_shut_A mo_phase_A mo_quarters_A mo_tall_A mo_pairs_A mo_pad_A mo_cuts_A mo_at_A mo_first_A mo_kept_A mo_isKept_A mo_people mo_shots mo_looks mo_bride mo_hands mo_period mo_shut mo_phase mo_flash mo_quarters mo_tired mo_rows mo_columns mo_rise mo_tall mo_pairs mo_pad mo_padMany r_mo_cuts mo_at mo_first mo_kept mo_isKept mo_keptAt mo_isWriting) := by
  refine rw_in_v (own := RX9) (by decide +kernel) rfl (Nat.le_of_ble_eq_true rfl) ?_
  intro p e s m args below meth c ls Q A E hA hQ hP hD hS hl
  obtain ⟨hx, hb, hml, hown, hts, hK, hN, hAO⟩ := id E
  have hl : lv_has ls 3 [(0, .ref mo_A)] := hl
  unfold f_X9_findCuts at hf
  obtain ⟨H, hH⟩ : ∃ H, H = s.heap := ⟨_, rfl⟩
  obtain ⟨locs, hlocs⟩ : ∃ L : List Loc, L = [] := ⟨_, rfl⟩
  rw [show W p l e (roR 2 48) s m args below meth c s.heap [] 0 0 Q (F0 m 0 ls []) = W p l e (roR 2 48) s m args below meth c H locs 0 0 Q (F0 m 0 ls []) by rw [hH, hlocs]]
  replace hS : va_S A s.heap H locs := by rw [hH, hlocs]; exact hS
  replace hP : va_P D vwCl (w_X9 cI cJ cZ cS mo_A mo_looks_A mo_period_A mo_shut_A mo_phase_A mo_quarters_A mo_tall_A mo_pairs_A mo_pad_A mo_cuts_A mo_at_A mo_first_A mo_kept_A mo_isKept_A mo_people mo_shots mo_looks mo_bride mo_hands mo_period mo_shut mo_phase mo_flash mo_quarters mo_tired mo_rows mo_columns mo_rise mo_tall mo_pairs mo_pad mo_padMany mo_cuts mo_at mo_first mo_kept mo_isKept mo_keptAt mo_isWriting) H := by rw [hH]; exact hP
  clear hH hlocs
  refine lv_aload_n (pc := 0) hx hb dX9_findCuts_0 rfl (lv_at hl 0 rfl) ?_
  refine va_get (pc := 1) (D := D) (ci := 9) (v := .int mo_people) (C := RX9) (T := TX9) (N := 25) hx hb hts inG9 hown hK hP 0 rfl rfl 0 (by decide) (hts _ tw_711) (fun _ h9 => h9) rfl dX9_findCuts_1 ?_
  refine lv_iconst (pc := 4) (v := (1 : Int32)) hx hb dX9_findCuts_4 (by decide) ?_
  refine lv_isub (pc := 5) hx hb dX9_findCuts_5 ?_
  refine lv_istore_n (pc := 6) (lv' := [(1, .int (mo_people - (1 : Int32))), (0, .ref mo_A)]) hx hb dX9_findCuts_6 rfl hl (by decide) rfl (fun ls hl => ?_)
  obtain ⟨k4, hk4, hf⟩ := lc1_e hf
  have K4 : ∀ (mo_cuts_5 : Nat → Int32) (H : Heap) (locs : List Loc) (ls : Array Slot), k4 mo_cuts_5 = some r_mo_cuts → va_P D vwCl (w_X9 cI cJ cZ cS mo_A mo_looks_A mo_period_A mo_shut_A mo_phase_A mo_quarters_A mo_tall_A mo_pairs_A mo_pad_A mo_cuts_A mo_at_A mo_first_A mo_kept_A mo_isKept_A mo_people mo_shots mo_looks mo_bride mo_hands mo_period mo_shut mo_phase mo_flash mo_quarters mo_tired mo_rows mo_columns mo_rise mo_tall mo_pairs mo_pad mo_padMany mo_cuts_5 mo_at mo_first mo_kept mo_isKept mo_keptAt mo_isWriting) H → va_D A (w_X9 cI cJ cZ cS mo_A mo_looks_A mo_period_A mo_shut_A mo_phase_A mo_quarters_A mo_tall_A mo_pairs_A mo_pad_A mo_cuts_A mo_at_A mo_first_A mo_kept_A mo_isKept_A mo_people mo_shots mo_looks mo_bride mo_hands mo_period mo_shut mo_phase mo_flash mo_quarters mo_tired mo_rows mo_columns mo_rise mo_tall mo_pairs mo_pad mo_padMany mo_cuts_5 mo_at mo_first mo_kept mo_isKept mo_keptAt mo_isWriting) → va_S A s.heap H locs → lv_has ls 3 [] → W p l e (roR 2 48) s m args below meth c H locs 0 0 Q (F0 m 50 ls []) := by
    intro mo_cuts_5 H locs ls hf hP hD hS hl
    rw [hk4] at hf
    cases hf
    exact hQ _ _ _ _ dX9_findCuts_50 hP hD hS
  have L7 : ∀ (n : Nat), ∀ (y1 : Int32) (mo_cuts_2 : Nat → Int32) (H : Heap) (locs : List Loc) (ls : Array Slot), f_X9_findCuts_L7 mo_people mo_shots mo_looks mo_hands N k4 n y1 mo_cuts_2 = some r_mo_cuts → va_P D vwCl (w_X9 cI cJ cZ cS mo_A mo_looks_A mo_period_A mo_shut_A mo_phase_A mo_quarters_A mo_tall_A mo_pairs_A mo_pad_A mo_cuts_A mo_at_A mo_first_A mo_kept_A mo_isKept_A mo_people mo_shots mo_looks mo_bride mo_hands mo_period mo_shut mo_phase mo_flash mo_quarters mo_tired mo_rows mo_columns mo_rise mo_tall mo_pairs mo_pad mo_padMany mo_cuts_2 mo_at mo_first mo_kept mo_isKept mo_keptAt mo_isWriting) H → va_D A (w_X9 cI cJ cZ cS mo_A mo_looks_A mo_period_A mo_shut_A mo_phase_A mo_quarters_A mo_tall_A mo_pairs_A mo_pad_A mo_cuts_A mo_at_A mo_first_A mo_kept_A mo_isKept_A mo_people mo_shots mo_looks mo_bride mo_hands mo_period mo_shut mo_phase mo_flash mo_quarters mo_tired mo_rows mo_columns mo_rise mo_tall mo_pairs mo_pad mo_padMany mo_cuts_2 mo_at mo_first mo_kept mo_isKept mo_keptAt mo_isWriting) → va_S A s.heap H locs → lv_has ls 3 [(0, .ref mo_A), (1, .int y1)] → W p l e (roR 2 48) s m args below meth c H locs 0 0 Q (F0 m 7 ls []) := by
    intro n
    induction n with
    | zero =>
      intro y1 mo_cuts_2 H locs ls hf
      rw [f_X9_findCuts_L7] at hf
      cases hf
    | succ n ih =>
      intro y1 mo_cuts_2 H locs ls hf hP hD hS hl
      rw [f_X9_findCuts_L7] at hf
      refine lv_iload_n (pc := 7) hx hb dX9_findCuts_7 rfl (lv_at hl 1 rfl) ?_
      refine r_if_lt (pc := 8) (tgt := 50) hx hb dX9_findCuts_8 (by decide) hf (fun hf => ?_) (fun hf => ?_)
      · exact K4 _ _ _ _ hf hP hD hS (lv_sub hl [] rfl)
      · refine lv_iconst (pc := 11) (v := (0 : Int32)) hx hb dX9_findCuts_11 (by decide) ?_
        refine lv_istore_n (pc := 12) (lv' := [(2, .int (0 : Int32)), (0, .ref mo_A), (1, .int y1)]) hx hb dX9_findCuts_12 rfl hl (by decide) rfl (fun ls hl => ?_)
        obtain ⟨k9, hk9, hf⟩ := lc1_e hf
        have K9 : ∀ (mo_cuts_10 : Nat → Int32) (H : Heap) (locs : List Loc) (ls : Array Slot), k9 mo_cuts_10 = some r_mo_cuts → va_P D vwCl (w_X9 cI cJ cZ cS mo_A mo_looks_A mo_period_A mo_shut_A mo_phase_A mo_quarters_A mo_tall_A mo_pairs_A mo_pad_A mo_cuts_A mo_at_A mo_first_A mo_kept_A mo_isKept_A mo_people mo_shots mo_looks mo_bride mo_hands mo_period mo_shut mo_phase mo_flash mo_quarters mo_tired mo_rows mo_columns mo_rise mo_tall mo_pairs mo_pad mo_padMany mo_cuts_10 mo_at mo_first mo_kept mo_isKept mo_keptAt mo_isWriting) H → va_D A (w_X9 cI cJ cZ cS mo_A mo_looks_A mo_period_A mo_shut_A mo_phase_A mo_quarters_A mo_tall_A mo_pairs_A mo_pad_A mo_cuts_A mo_at_A mo_first_A mo_kept_A mo_isKept_A mo_people mo_shots mo_looks mo_bride mo_hands mo_period mo_shut mo_phase mo_flash mo_quarters mo_tired mo_rows mo_columns mo_rise mo_tall mo_pairs mo_pad mo_padMany mo_cuts_10 mo_at mo_first mo_kept mo_isKept mo_keptAt mo_isWriting) → va_S A s.heap H locs → lv_has ls 3 [(0, .ref mo_A), (1, .int y1)] → W p l e (roR 2 48) s m args below meth c H locs 0 0 Q (F0 m 44 ls []) := by
          intro mo_cuts_10 H locs ls hf hP hD hS hl
          rw [hk9] at hf
          refine lv_iinc (pc := 44) (v := (y1 + (-1 : Int32))) (lv' := [(1, .int (y1 + (-1 : Int32))), (0, .ref mo_A)]) hx hb dX9_findCuts_44 hl (k := 1) rfl (by rfl) (by decide) rfl (fun ls hl => ?_)
          refine lv_goto (pc := 47) (tgt := 7) hx hb dX9_findCuts_47 (by decide) ?_
          exact ih _ _ _ _ _ hf hP hD hS (lv_sub hl [1, 0] rfl)
        have L13 : ∀ (n : Nat), ∀ (y6 : Int32) (mo_cuts_7 : Nat → Int32) (H : Heap) (locs : List Loc) (ls : Array Slot), f_X9_findCuts_L13 mo_people mo_shots mo_looks mo_hands y1 N k9 n y6 mo_cuts_7 = some r_mo_cuts → va_P D vwCl (w_X9 cI cJ cZ cS mo_A mo_looks_A mo_period_A mo_shut_A mo_phase_A mo_quarters_A mo_tall_A mo_pairs_A mo_pad_A mo_cuts_A mo_at_A mo_first_A mo_kept_A mo_isKept_A mo_people mo_shots mo_looks mo_bride mo_hands mo_period mo_shut mo_phase mo_flash mo_quarters mo_tired mo_rows mo_columns mo_rise mo_tall mo_pairs mo_pad mo_padMany mo_cuts_7 mo_at mo_first mo_kept mo_isKept mo_keptAt mo_isWriting) H → va_D A (w_X9 cI cJ cZ cS mo_A mo_looks_A mo_period_A mo_shut_A mo_phase_A mo_quarters_A mo_tall_A mo_pairs_A mo_pad_A mo_cuts_A mo_at_A mo_first_A mo_kept_A mo_isKept_A mo_people mo_shots mo_looks mo_bride mo_hands mo_period mo_shut mo_phase mo_flash mo_quarters mo_tired mo_rows mo_columns mo_rise mo_tall mo_pairs mo_pad mo_padMany mo_cuts_7 mo_at mo_first mo_kept mo_isKept mo_keptAt mo_isWriting) → va_S A s.heap H locs → lv_has ls 3 [(0, .ref mo_A), (1, .int y1), (2, .int y6)] → W p l e (roR 2 48) s m args below meth c H locs 0 0 Q (F0 m 13 ls []) := by
          intro n
          induction n with
          | zero =>
            intro y6 mo_cuts_7 H locs ls hf
            rw [f_X9_findCuts_L13] at hf
            cases hf
          | succ n ih =>
            intro y6 mo_cuts_7 H locs ls hf hP hD hS hl
            rw [f_X9_findCuts_L13] at hf
            refine lv_iload_n (pc := 13) hx hb dX9_findCuts_13 rfl (lv_at hl 2 rfl) ?_
            refine lv_aload_n (pc := 14) hx hb dX9_findCuts_14 rfl (lv_at hl 0 rfl) ?_
            refine va_get (pc := 15) (D := D) (ci := 9) (v := .int mo_shots) (C := RX9) (T := TX9) (N := 25) hx hb hts inG9 hown hK hP 0 rfl rfl 1 (by decide) (hts _ tw_712) (fun _ h9 => h9) rfl dX9_findCuts_15 ?_
            refine r_ic_ge (pc := 18) (tgt := 44) hx hb dX9_findCuts_18 (by decide) hf (fun hf => ?_) (fun hf => ?_)
            · exact K9 _ _ _ _ hf hP hD hS (lv_sub hl [0, 1] rfl)
            · refine lv_aload_n (pc := 21) hx hb dX9_findCuts_21 rfl (lv_at hl 0 rfl) ?_
              refine va_get (pc := 22) (D := D) (ci := 9) (v := .ref mo_cuts_A) (C := RX9) (T := TX9) (N := 25) hx hb hts inG9 hown hK hP 0 rfl rfl 18 (by decide) (hts _ tw_729) (fun _ h9 => h9) rfl dX9_findCuts_22 ?_
              refine lv_bipush (pc := 25) (v := (10 : Int32)) hx hb dX9_findCuts_25 (by decide) ?_
              refine lv_iload_n (pc := 27) hx hb dX9_findCuts_27 rfl (lv_at hl 1 rfl) ?_
              refine lv_imul (pc := 28) hx hb dX9_findCuts_28 ?_
              refine lv_iload_n (pc := 29) hx hb dX9_findCuts_29 rfl (lv_at hl 2 rfl) ?_
              refine lv_iadd (pc := 30) hx hb dX9_findCuts_30 ?_
              refine lv_aload_n (pc := 31) hx hb dX9_findCuts_31 rfl (lv_at hl 0 rfl) ?_
              refine lv_iload_n (pc := 32) hx hb dX9_findCuts_32 rfl (lv_at hl 1 rfl) ?_
              refine lv_iload_n (pc := 33) hx hb dX9_findCuts_33 rfl (lv_at hl 2 rfl) ?_
              obtain ⟨v11, hv34, hf⟩ := bd_e hf
              refine ro_Vi (pc := 34) (As := [.int y1, .int y6]) (rest := [.int (((10 : Int32) * y1) + y6), .ref mo_cuts_A]) E (c_X9_cutsFrom l D cI cJ cZ cS N mo_A mo_looks_A mo_period_A mo_shut_A mo_phase_A mo_quarters_A mo_tall_A mo_pairs_A mo_pad_A mo_cuts_A mo_at_A mo_first_A mo_kept_A mo_isKept_A mo_people mo_shots mo_looks mo_bride mo_hands mo_period mo_shut mo_phase mo_flash mo_quarters mo_tired mo_rows mo_columns mo_rise mo_tall mo_pairs mo_pad mo_padMany mo_cuts_7 mo_at mo_first mo_kept mo_isKept mo_keptAt mo_isWriting y1 y6 v11 hv34) F_X9_cutsFrom rfl rfl tw_884 tw_886 tp_31 hP ⟨by decide, by decide⟩ rfl hl.1 (Nat.le_of_ble_eq_true rfl) ⟨by decide, by decide⟩ rfl dX9_findCuts_34 ?_
              refine r_iast (pc := 37) hx hb hK hP hD hS 9 0 rfl rfl hf dX9_findCuts_37 (fun mo_cuts_12 H locs hf hP hD hS => ?_)
              have hP : va_P D vwCl (w_X9 cI cJ cZ cS mo_A mo_looks_A mo_period_A mo_shut_A mo_phase_A mo_quarters_A mo_tall_A mo_pairs_A mo_pad_A mo_cuts_A mo_at_A mo_first_A mo_kept_A mo_isKept_A mo_people mo_shots mo_looks mo_bride mo_hands mo_period mo_shut mo_phase mo_flash mo_quarters mo_tired mo_rows mo_columns mo_rise mo_tall mo_pairs mo_pad mo_padMany mo_cuts_12 mo_at mo_first mo_kept mo_isKept mo_keptAt mo_isWriting) H := hP
              have hD : va_D A (w_X9 cI cJ cZ cS mo_A mo_looks_A mo_period_A mo_shut_A mo_phase_A mo_quarters_A mo_tall_A mo_pairs_A mo_pad_A mo_cuts_A mo_at_A mo_first_A mo_kept_A mo_isKept_A mo_people mo_shots mo_looks mo_bride mo_hands mo_period mo_shut mo_phase mo_flash mo_quarters mo_tired mo_rows mo_columns mo_rise mo_tall mo_pairs mo_pad mo_padMany mo_cuts_12 mo_at mo_first mo_kept mo_isKept mo_keptAt mo_isWriting) := hD
              refine lv_iinc (pc := 38) (v := (y6 + (1 : Int32))) (lv' := [(2, .int (y6 + (1 : Int32))), (0, .ref mo_A), (1, .int y1)]) hx hb dX9_findCuts_38 hl (k := 2) rfl (by rfl) (by decide) rfl (fun ls hl => ?_)
              refine lv_goto (pc := 41) (tgt := 13) hx hb dX9_findCuts_41 (by decide) ?_
              exact ih _ _ _ _ _ hf hP hD hS (lv_sub hl [1, 2, 0] rfl)
        exact L13 N _ _ _ _ _ hf hP hD hS (lv_sub hl [1, 2, 0] rfl)
  exact L7 N _ _ _ _ _ hf hP hD hS (lv_sub hl [1, 0] rfl)
theorem F_X9_fewestCuts : CalF yX9_fewestCuts cX9_fewestCuts 3 (some .int) 0 := ⟨tw_891, tw_10, by decide +kernel⟩
set_option maxRecDepth 100000 in
set_option maxHeartbeats 4000000 in
theorem c_X9_fewestCuts (l : Launch) (D : va_G) (cI cJ cZ cS : ClassId) (N : Nat) (mo_A mo_looks_A mo_period_A mo_shut_A mo_phase_A mo_quarters_A mo_tall_A mo_pairs_A mo_pad_A mo_cuts_A mo_at_A mo_first_A mo_kept_A mo_isKept_A : Nat) (mo_people : Int32) (mo_shots : Int32) (mo_looks : Nat → Int32) (mo_bride : Int32) (mo_hands : Int32) (mo_period : Nat → Int32) (mo_shut : Nat → Int32) (mo_phase : Nat → Int32) (mo_flash : Int32) (mo_quarters : Nat → Int32) (mo_tired : Int32) (mo_rows : Int32) (mo_columns : Int32) (mo_rise : Int32) (mo_tall : Nat → Int32) (mo_pairs : Nat → Int32) (mo_pad : Nat → Int32) (mo_padMany : Int32) (mo_cuts : Nat → Int32) (mo_at : Nat → Int32) (mo_first : Nat → Int32) (mo_kept : Nat → Int32) (mo_isKept : Nat → Int32) (mo_keptAt : Int32) (mo_isWriting : Int32) (r : Int32) (hf : f_X9_fewestCuts N mo_shots mo_cuts = some r) : RoC l D cI cJ cZ cS yX9_fewestCuts cX9_fewestCuts 3 (some .int) 0 0 (w_X9 cI cJ cZ cS mo_A mo_looks_A mo_period_A mo_shut_A mo_phase_A mo_quarters_A mo_tall_A mo_pairs_A mo_pad_A mo_cuts_A mo_at_A mo_first_A mo_kept_A mo_isKept_A mo_people mo_shots mo_looks mo_bride mo_hands mo_period mo_shut mo_phase mo_flash mo_quarters mo_tired mo_rows mo_columns mo_rise mo_tall mo_pairs mo_pad mo_padMany mo_cuts mo_at mo_first mo_kept mo_isKept mo_keptAt mo_isWriting) [.ref mo_A] (some (.int r)) := by
  refine ro_in_i (own := RX9) (by decide +kernel) rfl (Nat.le_of_ble_eq_true rfl) ?_
  intro p e s m args below meth c ls Q E hQ hP hl
  obtain ⟨hx, hb, hml, hown, hts, hK, hN, hAO⟩ := id E
  have hl : lv_has ls 3 [(0, .ref mo_A)] := hl
  unfold f_X9_fewestCuts at hf
  refine lv_sipush (pc := 0) (v := (1000 : Int32)) hx hb dX9_fewestCuts_0 (by decide) ?_
  refine lv_istore_n (pc := 3) (lv' := [(1, .int (1000 : Int32)), (0, .ref mo_A)]) hx hb dX9_fewestCuts_3 rfl hl (by decide) rfl (fun ls hl => ?_)
  refine lv_iconst (pc := 4) (v := (0 : Int32)) hx hb dX9_fewestCuts_4 (by decide) ?_
  refine lv_istore_n (pc := 5) (lv' := [(2, .int (0 : Int32)), (1, .int (1000 : Int32)), (0, .ref mo_A)]) hx hb dX9_fewestCuts_5 rfl hl (by decide) rfl (fun ls hl => ?_)
  obtain ⟨k4, hk4, hf⟩ := lc1_e hf
  have K4 : ∀ (z5 : Int32) (ls : Array Slot), k4 z5 = some r → lv_has ls 3 [(1, .int z5)] → W p l e (roR 0 0) s m args below meth c s.heap [] 0 0 Q (F0 m 41 ls []) := by
    intro z5 ls hf hl
    rw [hk4] at hf
    refine lv_iload_n (pc := 41) hx hb dX9_fewestCuts_41 rfl (lv_at hl 0 rfl) ?_
    exact hQ _ _ _ dX9_fewestCuts_42 hf
  have L6 : ∀ (n : Nat), ∀ (y1 : Int32) (y2 : Int32) (ls : Array Slot), f_X9_fewestCuts_L6 mo_shots mo_cuts k4 n y1 y2 = some r → lv_has ls 3 [(0, .ref mo_A), (1, .int y1), (2, .int y2)] → W p l e (roR 0 0) s m args below meth c s.heap [] 0 0 Q (F0 m 6 ls []) := by
    intro n
    induction n with
    | zero =>
      intro y1 y2 ls hf
      rw [f_X9_fewestCuts_L6] at hf
      cases hf
    | succ n ih =>
      intro y1 y2 ls hf hl
      rw [f_X9_fewestCuts_L6] at hf
      refine lv_iload_n (pc := 6) hx hb dX9_fewestCuts_6 rfl (lv_at hl 2 rfl) ?_
      refine lv_aload_n (pc := 7) hx hb dX9_fewestCuts_7 rfl (lv_at hl 0 rfl) ?_
      refine va_get (pc := 8) (D := D) (ci := 9) (v := .int mo_shots) (C := RX9) (T := TX9) (N := 25) hx hb hts inG9 hown hK hP 0 rfl rfl 1 (by decide) (hts _ tw_712) (fun _ h9 => h9) rfl dX9_fewestCuts_8 ?_
      refine r_ic_ge (pc := 11) (tgt := 41) hx hb dX9_fewestCuts_11 (by decide) hf (fun hf => ?_) (fun hf => ?_)
      · exact K4 _ _ hf (lv_sub hl [1] rfl)
      · refine lv_aload_n (pc := 14) hx hb dX9_fewestCuts_14 rfl (lv_at hl 0 rfl) ?_
        refine va_get (pc := 15) (D := D) (ci := 9) (v := .ref mo_cuts_A) (C := RX9) (T := TX9) (N := 25) hx hb hts inG9 hown hK hP 0 rfl rfl 18 (by decide) (hts _ tw_729) (fun _ h9 => h9) rfl dX9_fewestCuts_15 ?_
        refine lv_iload_n (pc := 18) hx hb dX9_fewestCuts_18 rfl (lv_at hl 2 rfl) ?_
        refine r_iald (pc := 19) hx hb hK hP 9 0 rfl rfl hf dX9_fewestCuts_19 (fun v6 hf => ?_)
        refine lv_iload_n (pc := 20) hx hb dX9_fewestCuts_20 rfl (lv_at hl 1 rfl) ?_
        obtain ⟨k7, hk7, hf⟩ := lc1_e hf
        have K7 : ∀ (x9 : Int32) (ls : Array Slot), k7 x9 = some r → lv_has ls 3 [(0, .ref mo_A), (2, .int y2)] → W p l e (roR 0 0) s m args below meth c s.heap [] 0 0 Q (F0 m 34 ls [.int x9]) := by
          intro x9 ls hf hl
          rw [hk7] at hf
          refine lv_istore_n (pc := 34) (lv' := [(1, .int x9), (0, .ref mo_A), (2, .int y2)]) hx hb dX9_fewestCuts_34 rfl hl (by decide) rfl (fun ls hl => ?_)
          refine lv_iinc (pc := 35) (v := (y2 + (1 : Int32))) (lv' := [(2, .int (y2 + (1 : Int32))), (1, .int x9), (0, .ref mo_A)]) hx hb dX9_fewestCuts_35 hl (k := 2) rfl (by rfl) (by decide) rfl (fun ls hl => ?_)
          refine lv_goto (pc := 38) (tgt := 6) hx hb dX9_fewestCuts_38 (by decide) ?_
          exact ih _ _ _ hf (lv_sub hl [2, 1, 0] rfl)
        refine r_ic_ge (pc := 21) (tgt := 33) hx hb dX9_fewestCuts_21 (by decide) hf (fun hf => ?_) (fun hf => ?_)
        · refine lv_iload_n (pc := 33) hx hb dX9_fewestCuts_33 rfl (lv_at hl 1 rfl) ?_
          exact K7 _ _ hf (lv_sub hl [0, 2] rfl)
        · refine lv_aload_n (pc := 24) hx hb dX9_fewestCuts_24 rfl (lv_at hl 0 rfl) ?_
          refine va_get (pc := 25) (D := D) (ci := 9) (v := .ref mo_cuts_A) (C := RX9) (T := TX9) (N := 25) hx hb hts inG9 hown hK hP 0 rfl rfl 18 (by decide) (hts _ tw_729) (fun _ h9 => h9) rfl dX9_fewestCuts_25 ?_
          refine lv_iload_n (pc := 28) hx hb dX9_fewestCuts_28 rfl (lv_at hl 2 rfl) ?_
          refine r_iald (pc := 29) hx hb hK hP 9 0 rfl rfl hf dX9_fewestCuts_29 (fun v8 hf => ?_)
          refine lv_goto (pc := 30) (tgt := 34) hx hb dX9_fewestCuts_30 (by decide) ?_
          exact K7 _ _ hf (lv_sub hl [0, 2] rfl)
  exact L6 N _ _ _ hf (lv_sub hl [2, 1, 0] rfl)
theorem F_X9_goesOn : CalF yX9_goesOn cX9_goesOn 7 (some .boolean) 4 := ⟨tw_895, tw_10, by decide +kernel⟩
set_option maxRecDepth 100000 in
set_option maxHeartbeats 4000000 in
theorem c_X9_goesOn (l : Launch) (D : va_G) (cI cJ cZ cS : ClassId) (mo_A mo_looks_A mo_period_A mo_shut_A mo_phase_A mo_quarters_A mo_tall_A mo_pairs_A mo_pad_A mo_cuts_A mo_at_A mo_first_A mo_kept_A mo_isKept_A : Nat) (mo_people : Int32) (mo_shots : Int32) (mo_looks : Nat → Int32) (mo_bride : Int32) (mo_hands : Int32) (mo_period : Nat → Int32) (mo_shut : Nat → Int32) (mo_phase : Nat → Int32) (mo_flash : Int32) (mo_quarters : Nat → Int32) (mo_tired : Int32) (mo_rows : Int32) (mo_columns : Int32) (mo_rise : Int32) (mo_tall : Nat → Int32) (mo_pairs : Nat → Int32) (mo_pad : Nat → Int32) (mo_padMany : Int32) (mo_cuts : Nat → Int32) (mo_at : Nat → Int32) (mo_first : Nat → Int32) (mo_kept : Nat → Int32) (mo_isKept : Nat → Int32) (mo_keptAt : Int32) (mo_isWriting : Int32) (p1 : Int32) (p2 : Int32) (p3 : Int32) (p4 : Int32) (r : Int32) (hf : f_X9_goesOn mo_hands mo_cuts p1 p2 p3 p4 = some r) : RoC l D cI cJ cZ cS yX9_goesOn cX9_goesOn 7 (some .boolean) 0 0 (w_X9 cI cJ cZ cS mo_A mo_looks_A mo_period_A mo_shut_A mo_phase_A mo_quarters_A mo_tall_A mo_pairs_A mo_pad_A mo_cuts_A mo_at_A mo_first_A mo_kept_A mo_isKept_A mo_people mo_shots mo_looks mo_bride mo_hands mo_period mo_shut mo_phase mo_flash mo_quarters mo_tired mo_rows mo_columns mo_rise mo_tall mo_pairs mo_pad mo_padMany mo_cuts mo_at mo_first mo_kept mo_isKept mo_keptAt mo_isWriting) [.ref mo_A, .int p1, .int p2, .int p3, .int p4] (some (.int r)) := by
  refine ro_in_z (own := RX9) (by decide +kernel) rfl (Nat.le_of_ble_eq_true rfl) ?_
  intro p e s m args below meth c ls Q E hQ hP hl
  obtain ⟨hx, hb, hml, hown, hts, hK, hN, hAO⟩ := id E
  have hl : lv_has ls 7 [(0, .ref mo_A), (1, .int p1), (2, .int p2), (3, .int p3), (4, .int p4)] := hl
  unfold f_X9_goesOn at hf
  refine lv_iload_n (pc := 0) hx hb dX9_goesOn_0 rfl (lv_at hl 3 rfl) ?_
  obtain ⟨k2, hk2, hf⟩ := lc1_e hf
  have K2 : ∀ (x3 : Int32) (ls : Array Slot), k2 x3 = some r → lv_has ls 7 [(0, .ref mo_A), (1, .int p1), (2, .int p2), (4, .int p4)] → W p l e (roR 0 0) s m args below meth c s.heap [] 0 0 Q (F0 m 14 ls [.int x3]) := by
    intro x3 ls hf hl
    rw [hk2] at hf
    refine lv_istore (pc := 14) (lv' := [(5, .int x3), (0, .ref mo_A), (1, .int p1), (2, .int p2), (4, .int p4)]) hx hb dX9_goesOn_14 hl (by decide) rfl (fun ls hl => ?_)
    refine lv_iload (pc := 16) hx hb dX9_goesOn_16 (lv_at hl 0 rfl) ?_
    obtain ⟨k5, hk5, hf⟩ := lc1_e hf
    have K5 : ∀ (x6 : Int32) (ls : Array Slot), k5 x6 = some r → lv_has ls 7 [(0, .ref mo_A), (1, .int p1), (2, .int p2), (4, .int p4), (5, .int x3)] → W p l e (roR 0 0) s m args below meth c s.heap [] 0 0 Q (F0 m 39 ls [.int x6]) := by
      intro x6 ls hf hl
      rw [hk5] at hf
      refine lv_istore (pc := 39) (lv' := [(6, .int x6), (0, .ref mo_A), (1, .int p1), (2, .int p2), (4, .int p4), (5, .int x3)]) hx hb dX9_goesOn_39 hl (by decide) rfl (fun ls hl => ?_)
      refine lv_iload (pc := 41) hx hb dX9_goesOn_41 (lv_at hl 0 rfl) ?_
      refine r_if_eq (pc := 43) (tgt := 77) hx hb dX9_goesOn_43 (by decide) hf (fun hf => ?_) (fun hf => ?_)
      · refine lv_iconst (pc := 77) (v := (0 : Int32)) hx hb dX9_goesOn_77 (by decide) ?_
        exact hQ _ _ _ dX9_goesOn_78 rfl hf
      · refine lv_aload_n (pc := 46) hx hb dX9_goesOn_46 rfl (lv_at hl 1 rfl) ?_
        refine va_get (pc := 47) (D := D) (ci := 9) (v := .ref mo_cuts_A) (C := RX9) (T := TX9) (N := 25) hx hb hts inG9 hown hK hP 0 rfl rfl 18 (by decide) (hts _ tw_729) (fun _ h9 => h9) rfl dX9_goesOn_47 ?_
        refine lv_bipush (pc := 50) (v := (10 : Int32)) hx hb dX9_goesOn_50 (by decide) ?_
        refine lv_iload_n (pc := 52) hx hb dX9_goesOn_52 rfl (lv_at hl 2 rfl) ?_
        refine lv_imul (pc := 53) hx hb dX9_goesOn_53 ?_
        refine lv_iload_n (pc := 54) hx hb dX9_goesOn_54 rfl (lv_at hl 3 rfl) ?_
        refine lv_iadd (pc := 55) hx hb dX9_goesOn_55 ?_
        refine r_iald (pc := 56) hx hb hK hP 9 0 rfl rfl hf dX9_goesOn_56 (fun v7 hf => ?_)
        refine lv_iload (pc := 57) hx hb dX9_goesOn_57 (lv_at hl 5 rfl) ?_
        obtain ⟨k8, hk8, hf⟩ := lc1_e hf
        have K8 : ∀ (x9 : Int32) (ls : Array Slot), k8 x9 = some r → lv_has ls 7 [(4, .int p4)] → W p l e (roR 0 0) s m args below meth c s.heap [] 0 0 Q (F0 m 67 ls [.int x9, .int v7]) := by
          intro x9 ls hf hl
          rw [hk8] at hf
          refine lv_iadd (pc := 67) hx hb dX9_goesOn_67 ?_
          refine lv_iload (pc := 68) hx hb dX9_goesOn_68 (lv_at hl 0 rfl) ?_
          refine r_ic_ne (pc := 70) (tgt := 77) hx hb dX9_goesOn_70 (by decide) hf (fun hf => ?_) (fun hf => ?_)
          · refine lv_iconst (pc := 77) (v := (0 : Int32)) hx hb dX9_goesOn_77 (by decide) ?_
            exact hQ _ _ _ dX9_goesOn_78 rfl hf
          · refine lv_iconst (pc := 73) (v := (1 : Int32)) hx hb dX9_goesOn_73 (by decide) ?_
            refine lv_goto (pc := 74) (tgt := 78) hx hb dX9_goesOn_74 (by decide) ?_
            exact hQ _ _ _ dX9_goesOn_78 rfl hf
        refine r_if_eq (pc := 59) (tgt := 66) hx hb dX9_goesOn_59 (by decide) hf (fun hf => ?_) (fun hf => ?_)
        · refine lv_iconst (pc := 66) (v := (0 : Int32)) hx hb dX9_goesOn_66 (by decide) ?_
          exact K8 _ _ hf (lv_sub hl [4] rfl)
        · refine lv_iconst (pc := 62) (v := (1 : Int32)) hx hb dX9_goesOn_62 (by decide) ?_
          refine lv_goto (pc := 63) (tgt := 67) hx hb dX9_goesOn_63 (by decide) ?_
          exact K8 _ _ hf (lv_sub hl [4] rfl)
    obtain ⟨k4, hk4, hf⟩ := lc0_e hf
    have K4 : ∀  (ls : Array Slot), k4 = some r → lv_has ls 7 [(0, .ref mo_A), (1, .int p1), (2, .int p2), (4, .int p4), (5, .int x3)] → W p l e (roR 0 0) s m args below meth c s.heap [] 0 0 Q (F0 m 34 ls []) := by
      intro  ls hf hl
      rw [hk4] at hf
      refine lv_iconst (pc := 34) (v := (1 : Int32)) hx hb dX9_goesOn_34 (by decide) ?_
      refine lv_goto (pc := 35) (tgt := 39) hx hb dX9_goesOn_35 (by decide) ?_
      exact K5 _ _ hf hl
    refine r_if_eq (pc := 18) (tgt := 34) hx hb dX9_goesOn_18 (by decide) hf (fun hf => ?_) (fun hf => ?_)
    · exact K4  _ hf (lv_sub hl [1, 2, 3, 4, 0] rfl)
    · refine lv_aload_n (pc := 21) hx hb dX9_goesOn_21 rfl (lv_at hl 1 rfl) ?_
      refine va_get (pc := 22) (D := D) (ci := 9) (v := .int mo_hands) (C := RX9) (T := TX9) (N := 25) hx hb hts inG9 hown hK hP 0 rfl rfl 4 (by decide) (hts _ tw_715) (fun _ h9 => h9) rfl dX9_goesOn_22 ?_
      refine lv_iload_n (pc := 25) hx hb dX9_goesOn_25 rfl (lv_at hl 2 rfl) ?_
      refine lv_iconst (pc := 26) (v := (1 : Int32)) hx hb dX9_goesOn_26 (by decide) ?_
      refine lv_isub (pc := 27) hx hb dX9_goesOn_27 ?_
      refine lv_ishr (pc := 28) hx hb dX9_goesOn_28 ?_
      refine lv_iconst (pc := 29) (v := (1 : Int32)) hx hb dX9_goesOn_29 (by decide) ?_
      refine lv_iand (pc := 30) hx hb dX9_goesOn_30 ?_
      refine r_if_ne (pc := 31) (tgt := 38) hx hb dX9_goesOn_31 (by decide) hf (fun hf => ?_) (fun hf => ?_)
      · refine lv_iconst (pc := 38) (v := (0 : Int32)) hx hb dX9_goesOn_38 (by decide) ?_
        exact K5 _ _ hf (lv_sub hl [1, 2, 3, 4, 0] rfl)
      · exact K4  _ hf (lv_sub hl [1, 2, 3, 4, 0] rfl)
  obtain ⟨k1, hk1, hf⟩ := lc0_e hf
  have K1 : ∀  (ls : Array Slot), k1 = some r → lv_has ls 7 [(0, .ref mo_A), (1, .int p1), (2, .int p2), (4, .int p4)] → W p l e (roR 0 0) s m args below meth c s.heap [] 0 0 Q (F0 m 13 ls []) := by
    intro  ls hf hl
    rw [hk1] at hf
    refine lv_iconst (pc := 13) (v := (0 : Int32)) hx hb dX9_goesOn_13 (by decide) ?_
    exact K2 _ _ hf hl
  refine r_if_lt (pc := 1) (tgt := 13) hx hb dX9_goesOn_1 (by decide) hf (fun hf => ?_) (fun hf => ?_)
  · exact K1  _ hf (lv_sub hl [0, 1, 2, 4] rfl)
  · refine lv_iload_n (pc := 4) hx hb dX9_goesOn_4 rfl (lv_at hl 2 rfl) ?_
    refine lv_iload_n (pc := 5) hx hb dX9_goesOn_5 rfl (lv_at hl 3 rfl) ?_
    refine r_ic_eq (pc := 6) (tgt := 13) hx hb dX9_goesOn_6 (by decide) hf (fun hf => ?_) (fun hf => ?_)
    · exact K1  _ hf (lv_sub hl [0, 1, 2, 4] rfl)
    · refine lv_iconst (pc := 9) (v := (1 : Int32)) hx hb dX9_goesOn_9 (by decide) ?_
      refine lv_goto (pc := 10) (tgt := 14) hx hb dX9_goesOn_10 (by decide) ?_
      exact K2 _ _ hf (lv_sub hl [0, 1, 2, 4] rfl)
theorem F_X9_heads : CalF yX9_heads cX9_heads 6 (some .int) 1 := ⟨tw_879, tw_10, by decide +kernel⟩
set_option maxRecDepth 100000 in
set_option maxHeartbeats 4000000 in
theorem c_X9_heads (l : Launch) (D : va_G) (cI cJ cZ cS : ClassId) (N : Nat) (mo_A mo_looks_A mo_period_A mo_shut_A mo_phase_A mo_quarters_A mo_tall_A mo_pairs_A mo_pad_A mo_cuts_A mo_at_A mo_first_A mo_kept_A mo_isKept_A : Nat) (mo_people : Int32) (mo_shots : Int32) (mo_looks : Nat → Int32) (mo_bride : Int32) (mo_hands : Int32) (mo_period : Nat → Int32) (mo_shut : Nat → Int32) (mo_phase : Nat → Int32) (mo_flash : Int32) (mo_quarters : Nat → Int32) (mo_tired : Int32) (mo_rows : Int32) (mo_columns : Int32) (mo_rise : Int32) (mo_tall : Nat → Int32) (mo_pairs : Nat → Int32) (mo_pad : Nat → Int32) (mo_padMany : Int32) (mo_cuts : Nat → Int32) (mo_at : Nat → Int32) (mo_first : Nat → Int32) (mo_kept : Nat → Int32) (mo_isKept : Nat → Int32) (mo_keptAt : Int32) (mo_isWriting : Int32) (p1 : Int32) (sz : Nat) (r : Int32) (r_mo_cuts : Nat → Int32) (hf : f_X9_heads N mo_people mo_shots mo_looks mo_hands mo_cuts p1 = some (r, r_mo_cuts)) : RwC l D cI cJ cZ cS yX9_heads cX9_heads 6 (some .int) 3 70 (w_X9 cI cJ cZ cS mo_A mo_looks_A mo_period_A mo_shut_A mo_phase_A mo_quarters_A mo_tall_A mo_pairs_A mo_pad_A mo_cuts_A mo_at_A mo_first_A mo_kept_A mo_isKept_A mo_people mo_shots mo_looks mo_bride mo_hands mo_period mo_shut mo_phase mo_flash mo_quarters mo_tired mo_rows mo_columns mo_rise mo_tall mo_pairs mo_pad mo_padMany mo_cuts mo_at mo_first mo_kept mo_isKept mo_keptAt mo_isWriting) sz [.ref mo_A, .int p1] (some (.int r)) (w_X9 cI cJ cZ cS mo_A mo_looks_A mo_period_A mo_shut_A mo_phase_A mo_quarters_A mo_tall_A mo_pairs_A mo_pad_A mo_cuts_A mo_at_A mo_first_A mo_kept_A mo_isKept_A mo_people mo_shots mo_looks mo_bride mo_hands mo_period mo_shut mo_phase mo_flash mo_quarters mo_tired mo_rows mo_columns mo_rise mo_tall mo_pairs mo_pad mo_padMany r_mo_cuts mo_at mo_first mo_kept mo_isKept mo_keptAt mo_isWriting) := by
  refine rw_in_i (own := RX9) (by decide +kernel) rfl (Nat.le_of_ble_eq_true rfl) ?_
  intro p e s m args below meth c ls Q A E hA hQ hP hD hS hl
  obtain ⟨hx, hb, hml, hown, hts, hK, hN, hAO⟩ := id E
  have hl : lv_has ls 6 [(0, .ref mo_A), (1, .int p1)] := hl
  unfold f_X9_heads at hf
  obtain ⟨H, hH⟩ : ∃ H, H = s.heap := ⟨_, rfl⟩
  obtain ⟨locs, hlocs⟩ : ∃ L : List Loc, L = [] := ⟨_, rfl⟩
  rw [show W p l e (roR 3 70) s m args below meth c s.heap [] 0 0 Q (F0 m 0 ls []) = W p l e (roR 3 70) s m args below meth c H locs 0 0 Q (F0 m 0 ls []) by rw [hH, hlocs]]
  replace hS : va_S A s.heap H locs := by rw [hH, hlocs]; exact hS
  replace hP : va_P D vwCl (w_X9 cI cJ cZ cS mo_A mo_looks_A mo_period_A mo_shut_A mo_phase_A mo_quarters_A mo_tall_A mo_pairs_A mo_pad_A mo_cuts_A mo_at_A mo_first_A mo_kept_A mo_isKept_A mo_people mo_shots mo_looks mo_bride mo_hands mo_period mo_shut mo_phase mo_flash mo_quarters mo_tired mo_rows mo_columns mo_rise mo_tall mo_pairs mo_pad mo_padMany mo_cuts mo_at mo_first mo_kept mo_isKept mo_keptAt mo_isWriting) H := by rw [hH]; exact hP
  clear hH hlocs
  refine lv_aload_n (pc := 0) hx hb dX9_heads_0 rfl (lv_at hl 0 rfl) ?_
  obtain ⟨mo_cuts_1, hv1, hf⟩ := bd_e hf
  refine rw_Vv (pc := 1) (As := []) (rest := []) (wr := []) (wn := (w_X9 cI cJ cZ cS mo_A mo_looks_A mo_period_A mo_shut_A mo_phase_A mo_quarters_A mo_tall_A mo_pairs_A mo_pad_A mo_cuts_A mo_at_A mo_first_A mo_kept_A mo_isKept_A mo_people mo_shots mo_looks mo_bride mo_hands mo_period mo_shut mo_phase mo_flash mo_quarters mo_tired mo_rows mo_columns mo_rise mo_tall mo_pairs mo_pad mo_padMany mo_cuts_1 mo_at mo_first mo_kept mo_isKept mo_keptAt mo_isWriting)) E (c_X9_findCuts l D cI cJ cZ cS N mo_A mo_looks_A mo_period_A mo_shut_A mo_phase_A mo_quarters_A mo_tall_A mo_pairs_A mo_pad_A mo_cuts_A mo_at_A mo_first_A mo_kept_A mo_isKept_A mo_people mo_shots mo_looks mo_bride mo_hands mo_period mo_shut mo_phase mo_flash mo_quarters mo_tired mo_rows mo_columns mo_rise mo_tall mo_pairs mo_pad mo_padMany mo_cuts mo_at mo_first mo_kept mo_isKept mo_keptAt mo_isWriting H.size mo_cuts_1 hv1) F_X9_findCuts rfl rfl tw_880 tw_882 tp_30 hP hD hS hA [0, 1, 2, 3, 4, 5, 6, 7, 8, 9, 10, 11, 12, 13] [] [0, 1, 2, 3, 4, 5, 6, 7, 8, 9, 10, 11, 12, 13] rfl rfl (by decide) (by decide) (by decide) rfl (by decide) ⟨by decide, by decide⟩ rfl hl.1 (Nat.le_of_ble_eq_true rfl) ⟨by decide, by decide⟩ rfl dX9_heads_1 (fun H locs hP hD hS => ?_)
  refine lv_aload_n (pc := 4) hx hb dX9_heads_4 rfl (lv_at hl 0 rfl) ?_
  obtain ⟨v2, hv5, hf⟩ := bd_e hf
  refine ro_Vi (pc := 5) (As := []) (rest := []) E (c_X9_fewestCuts l D cI cJ cZ cS N mo_A mo_looks_A mo_period_A mo_shut_A mo_phase_A mo_quarters_A mo_tall_A mo_pairs_A mo_pad_A mo_cuts_A mo_at_A mo_first_A mo_kept_A mo_isKept_A mo_people mo_shots mo_looks mo_bride mo_hands mo_period mo_shut mo_phase mo_flash mo_quarters mo_tired mo_rows mo_columns mo_rise mo_tall mo_pairs mo_pad mo_padMany mo_cuts_1 mo_at mo_first mo_kept mo_isKept mo_keptAt mo_isWriting v2 hv5) F_X9_fewestCuts rfl rfl tw_888 tw_890 tp_32 hP ⟨by decide, by decide⟩ rfl hl.1 (Nat.le_of_ble_eq_true rfl) ⟨by decide, by decide⟩ rfl dX9_heads_5 ?_
  refine lv_istore_n (pc := 8) (lv' := [(2, .int v2), (0, .ref mo_A), (1, .int p1)]) hx hb dX9_heads_8 rfl hl (by decide) rfl (fun ls hl => ?_)
  refine lv_iload_n (pc := 9) hx hb dX9_heads_9 rfl (lv_at hl 0 rfl) ?_
  refine lv_sipush (pc := 10) (v := (1000 : Int32)) hx hb dX9_heads_10 (by decide) ?_
  refine r_ic_lt (pc := 13) (tgt := 19) hx hb dX9_heads_13 (by decide) hf (fun hf => ?_) (fun hf => ?_)
  · refine lv_iload_n (pc := 19) hx hb dX9_heads_19 rfl (lv_at hl 2 rfl) ?_
    refine lv_iconst (pc := 20) (v := (-1 : Int32)) hx hb dX9_heads_20 (by decide) ?_
    refine r_ic_ne (pc := 21) (tgt := 26) hx hb dX9_heads_21 (by decide) hf (fun hf => ?_) (fun hf => ?_)
    · refine lv_aload_n (pc := 26) hx hb dX9_heads_26 rfl (lv_at hl 1 rfl) ?_
      refine lv_iload_n (pc := 27) hx hb dX9_heads_27 rfl (lv_at hl 2 rfl) ?_
      obtain ⟨v3, hv28, hf⟩ := bd_e hf
      refine ro_Vi (pc := 28) (As := [.int p1]) (rest := []) E (c_X9_isPerson l D cI cJ cZ cS mo_A mo_looks_A mo_period_A mo_shut_A mo_phase_A mo_quarters_A mo_tall_A mo_pairs_A mo_pad_A mo_cuts_A mo_at_A mo_first_A mo_kept_A mo_isKept_A mo_people mo_shots mo_looks mo_bride mo_hands mo_period mo_shut mo_phase mo_flash mo_quarters mo_tired mo_rows mo_columns mo_rise mo_tall mo_pairs mo_pad mo_padMany mo_cuts_1 mo_at mo_first mo_kept mo_isKept mo_keptAt mo_isWriting p1 v3 hv28) F_X9_isPerson rfl rfl tw_800 tw_802 tp_22 hP ⟨by decide, by decide⟩ rfl hl.1 (Nat.le_of_ble_eq_true rfl) ⟨by decide, by decide⟩ rfl dX9_heads_28 ?_
      refine r_if_ne (pc := 31) (tgt := 37) hx hb dX9_heads_31 (by decide) hf (fun hf => ?_) (fun hf => ?_)
      · refine lv_bipush (pc := 37) (v := (-6 : Int32)) hx hb dX9_heads_37 (by decide) ?_
        refine lv_istore_n (pc := 39) (lv' := [(3, .int (-6 : Int32)), (2, .int v2), (0, .ref mo_A), (1, .int p1)]) hx hb dX9_heads_39 rfl hl (by decide) rfl (fun ls hl => ?_)
        refine lv_iconst (pc := 40) (v := (0 : Int32)) hx hb dX9_heads_40 (by decide) ?_
        refine lv_istore (pc := 41) (lv' := [(4, .int (0 : Int32)), (3, .int (-6 : Int32)), (2, .int v2), (0, .ref mo_A), (1, .int p1)]) hx hb dX9_heads_41 hl (by decide) rfl (fun ls hl => ?_)
        obtain ⟨k8, hk8, hf⟩ := lc1_e hf
        have K8 : ∀ (z9 : Int32) (H : Heap) (locs : List Loc) (ls : Array Slot), k8 z9 = some (r, r_mo_cuts) → va_P D vwCl (w_X9 cI cJ cZ cS mo_A mo_looks_A mo_period_A mo_shut_A mo_phase_A mo_quarters_A mo_tall_A mo_pairs_A mo_pad_A mo_cuts_A mo_at_A mo_first_A mo_kept_A mo_isKept_A mo_people mo_shots mo_looks mo_bride mo_hands mo_period mo_shut mo_phase mo_flash mo_quarters mo_tired mo_rows mo_columns mo_rise mo_tall mo_pairs mo_pad mo_padMany mo_cuts_1 mo_at mo_first mo_kept mo_isKept mo_keptAt mo_isWriting) H → va_D A (w_X9 cI cJ cZ cS mo_A mo_looks_A mo_period_A mo_shut_A mo_phase_A mo_quarters_A mo_tall_A mo_pairs_A mo_pad_A mo_cuts_A mo_at_A mo_first_A mo_kept_A mo_isKept_A mo_people mo_shots mo_looks mo_bride mo_hands mo_period mo_shut mo_phase mo_flash mo_quarters mo_tired mo_rows mo_columns mo_rise mo_tall mo_pairs mo_pad mo_padMany mo_cuts_1 mo_at mo_first mo_kept mo_isKept mo_keptAt mo_isWriting) → va_S A s.heap H locs → lv_has ls 6 [(3, .int z9)] → W p l e (roR 3 70) s m args below meth c H locs 0 0 Q (F0 m 98 ls []) := by
          intro z9 H locs ls hf hP hD hS hl
          rw [hk8] at hf
          refine lv_iload_n (pc := 98) hx hb dX9_heads_98 rfl (lv_at hl 0 rfl) ?_
          cases hf
          exact hQ _ _ _ _ _ dX9_heads_99 rfl hP hD hS
        have L43 : ∀ (n : Nat), ∀ (y4 : Int32) (y5 : Int32) (y6 : Int32) (H : Heap) (locs : List Loc) (ls : Array Slot), f_X9_heads_L43 mo_hands p1 mo_cuts_1 N k8 n y4 y5 y6 = some (r, r_mo_cuts) → va_P D vwCl (w_X9 cI cJ cZ cS mo_A mo_looks_A mo_period_A mo_shut_A mo_phase_A mo_quarters_A mo_tall_A mo_pairs_A mo_pad_A mo_cuts_A mo_at_A mo_first_A mo_kept_A mo_isKept_A mo_people mo_shots mo_looks mo_bride mo_hands mo_period mo_shut mo_phase mo_flash mo_quarters mo_tired mo_rows mo_columns mo_rise mo_tall mo_pairs mo_pad mo_padMany mo_cuts_1 mo_at mo_first mo_kept mo_isKept mo_keptAt mo_isWriting) H → va_D A (w_X9 cI cJ cZ cS mo_A mo_looks_A mo_period_A mo_shut_A mo_phase_A mo_quarters_A mo_tall_A mo_pairs_A mo_pad_A mo_cuts_A mo_at_A mo_first_A mo_kept_A mo_isKept_A mo_people mo_shots mo_looks mo_bride mo_hands mo_period mo_shut mo_phase mo_flash mo_quarters mo_tired mo_rows mo_columns mo_rise mo_tall mo_pairs mo_pad mo_padMany mo_cuts_1 mo_at mo_first mo_kept mo_isKept mo_keptAt mo_isWriting) → va_S A s.heap H locs → lv_has ls 6 [(0, .ref mo_A), (1, .int p1), (2, .int y4), (3, .int y5), (4, .int y6)] → W p l e (roR 3 70) s m args below meth c H locs 0 0 Q (F0 m 43 ls []) := by
          intro n
          induction n with
          | zero =>
            intro y4 y5 y6 H locs ls hf
            rw [f_X9_heads_L43] at hf
            cases hf
          | succ n ih =>
            intro y4 y5 y6 H locs ls hf hP hD hS hl
            rw [f_X9_heads_L43] at hf
            refine lv_iload (pc := 43) hx hb dX9_heads_43 (lv_at hl 4 rfl) ?_
            refine lv_iload_n (pc := 45) hx hb dX9_heads_45 rfl (lv_at hl 1 rfl) ?_
            refine r_ic_gt (pc := 46) (tgt := 98) hx hb dX9_heads_46 (by decide) hf (fun hf => ?_) (fun hf => ?_)
            · exact K8 _ _ _ _ hf hP hD hS (lv_sub hl [3] rfl)
            · refine lv_iconst (pc := 49) (v := (0 : Int32)) hx hb dX9_heads_49 (by decide) ?_
              refine lv_istore (pc := 50) (lv' := [(5, .int (0 : Int32)), (0, .ref mo_A), (1, .int p1), (2, .int y4), (3, .int y5), (4, .int y6)]) hx hb dX9_heads_50 hl (by decide) rfl (fun ls hl => ?_)
              obtain ⟨k12, hk12, hf⟩ := lc1_e hf
              have K12 : ∀ (z13 : Int32) (H : Heap) (locs : List Loc) (ls : Array Slot), k12 z13 = some (r, r_mo_cuts) → va_P D vwCl (w_X9 cI cJ cZ cS mo_A mo_looks_A mo_period_A mo_shut_A mo_phase_A mo_quarters_A mo_tall_A mo_pairs_A mo_pad_A mo_cuts_A mo_at_A mo_first_A mo_kept_A mo_isKept_A mo_people mo_shots mo_looks mo_bride mo_hands mo_period mo_shut mo_phase mo_flash mo_quarters mo_tired mo_rows mo_columns mo_rise mo_tall mo_pairs mo_pad mo_padMany mo_cuts_1 mo_at mo_first mo_kept mo_isKept mo_keptAt mo_isWriting) H → va_D A (w_X9 cI cJ cZ cS mo_A mo_looks_A mo_period_A mo_shut_A mo_phase_A mo_quarters_A mo_tall_A mo_pairs_A mo_pad_A mo_cuts_A mo_at_A mo_first_A mo_kept_A mo_isKept_A mo_people mo_shots mo_looks mo_bride mo_hands mo_period mo_shut mo_phase mo_flash mo_quarters mo_tired mo_rows mo_columns mo_rise mo_tall mo_pairs mo_pad mo_padMany mo_cuts_1 mo_at mo_first mo_kept mo_isKept mo_keptAt mo_isWriting) → va_S A s.heap H locs → lv_has ls 6 [(0, .ref mo_A), (1, .int p1), (2, .int y4), (3, .int y5), (4, .int y6), (5, .int z13)] → W p l e (roR 3 70) s m args below meth c H locs 0 0 Q (F0 m 71 ls []) := by
                intro z13 H locs ls hf hP hD hS hl
                rw [hk12] at hf
                refine lv_iload_n (pc := 71) hx hb dX9_heads_71 rfl (lv_at hl 2 rfl) ?_
                refine lv_iload_n (pc := 72) hx hb dX9_heads_72 rfl (lv_at hl 3 rfl) ?_
                obtain ⟨k16, hk16, hf⟩ := lc1_e hf
                have K16 : ∀ (x17 : Int32) (H : Heap) (locs : List Loc) (ls : Array Slot), k16 x17 = some (r, r_mo_cuts) → va_P D vwCl (w_X9 cI cJ cZ cS mo_A mo_looks_A mo_period_A mo_shut_A mo_phase_A mo_quarters_A mo_tall_A mo_pairs_A mo_pad_A mo_cuts_A mo_at_A mo_first_A mo_kept_A mo_isKept_A mo_people mo_shots mo_looks mo_bride mo_hands mo_period mo_shut mo_phase mo_flash mo_quarters mo_tired mo_rows mo_columns mo_rise mo_tall mo_pairs mo_pad mo_padMany mo_cuts_1 mo_at mo_first mo_kept mo_isKept mo_keptAt mo_isWriting) H → va_D A (w_X9 cI cJ cZ cS mo_A mo_looks_A mo_period_A mo_shut_A mo_phase_A mo_quarters_A mo_tall_A mo_pairs_A mo_pad_A mo_cuts_A mo_at_A mo_first_A mo_kept_A mo_isKept_A mo_people mo_shots mo_looks mo_bride mo_hands mo_period mo_shut mo_phase mo_flash mo_quarters mo_tired mo_rows mo_columns mo_rise mo_tall mo_pairs mo_pad mo_padMany mo_cuts_1 mo_at mo_first mo_kept mo_isKept mo_keptAt mo_isWriting) → va_S A s.heap H locs → lv_has ls 6 [(0, .ref mo_A), (1, .int p1), (4, .int y6), (5, .int z13)] → W p l e (roR 3 70) s m args below meth c H locs 0 0 Q (F0 m 87 ls [.int x17, .int y4]) := by
                  intro x17 H locs ls hf hP hD hS hl
                  rw [hk16] at hf
                  refine lv_isub (pc := 87) hx hb dX9_heads_87 ?_
                  refine lv_istore_n (pc := 88) (lv' := [(2, .int (y4 - x17)), (0, .ref mo_A), (1, .int p1), (4, .int y6), (5, .int z13)]) hx hb dX9_heads_88 rfl hl (by decide) rfl (fun ls hl => ?_)
                  refine lv_iload (pc := 89) hx hb dX9_heads_89 (lv_at hl 4 rfl) ?_
                  refine lv_istore_n (pc := 91) (lv' := [(3, .int z13), (2, .int (y4 - x17)), (0, .ref mo_A), (1, .int p1), (4, .int y6), (5, .int z13)]) hx hb dX9_heads_91 rfl hl (by decide) rfl (fun ls hl => ?_)
                  refine lv_iinc (pc := 92) (v := (y6 + (1 : Int32))) (lv' := [(4, .int (y6 + (1 : Int32))), (3, .int z13), (2, .int (y4 - x17)), (0, .ref mo_A), (1, .int p1), (5, .int z13)]) hx hb dX9_heads_92 hl (k := 4) rfl (by rfl) (by decide) rfl (fun ls hl => ?_)
                  refine lv_goto (pc := 95) (tgt := 43) hx hb dX9_heads_95 (by decide) ?_
                  exact ih _ _ _ _ _ _ hf hP hD hS (lv_sub hl [3, 4, 2, 1, 0] rfl)
                obtain ⟨k15, hk15, hf⟩ := lc0_e hf
                have K15 : ∀  (H : Heap) (locs : List Loc) (ls : Array Slot), k15 = some (r, r_mo_cuts) → va_P D vwCl (w_X9 cI cJ cZ cS mo_A mo_looks_A mo_period_A mo_shut_A mo_phase_A mo_quarters_A mo_tall_A mo_pairs_A mo_pad_A mo_cuts_A mo_at_A mo_first_A mo_kept_A mo_isKept_A mo_people mo_shots mo_looks mo_bride mo_hands mo_period mo_shut mo_phase mo_flash mo_quarters mo_tired mo_rows mo_columns mo_rise mo_tall mo_pairs mo_pad mo_padMany mo_cuts_1 mo_at mo_first mo_kept mo_isKept mo_keptAt mo_isWriting) H → va_D A (w_X9 cI cJ cZ cS mo_A mo_looks_A mo_period_A mo_shut_A mo_phase_A mo_quarters_A mo_tall_A mo_pairs_A mo_pad_A mo_cuts_A mo_at_A mo_first_A mo_kept_A mo_isKept_A mo_people mo_shots mo_looks mo_bride mo_hands mo_period mo_shut mo_phase mo_flash mo_quarters mo_tired mo_rows mo_columns mo_rise mo_tall mo_pairs mo_pad mo_padMany mo_cuts_1 mo_at mo_first mo_kept mo_isKept mo_keptAt mo_isWriting) → va_S A s.heap H locs → lv_has ls 6 [(0, .ref mo_A), (1, .int p1), (4, .int y6), (5, .int z13)] → W p l e (roR 3 70) s m args below meth c H locs 0 0 Q (F0 m 86 ls [.int y4]) := by
                  intro  H locs ls hf hP hD hS hl
                  rw [hk15] at hf
                  refine lv_iconst (pc := 86) (v := (0 : Int32)) hx hb dX9_heads_86 (by decide) ?_
                  exact K16 _ _ _ _ hf hP hD hS hl
                refine r_if_lt (pc := 73) (tgt := 86) hx hb dX9_heads_73 (by decide) hf (fun hf => ?_) (fun hf => ?_)
                · exact K15  _ _ _ hf hP hD hS (lv_sub hl [0, 1, 4, 5] rfl)
                · refine lv_iload (pc := 76) hx hb dX9_heads_76 (lv_at hl 5 rfl) ?_
                  refine lv_iload_n (pc := 78) hx hb dX9_heads_78 rfl (lv_at hl 3 rfl) ?_
                  refine r_ic_eq (pc := 79) (tgt := 86) hx hb dX9_heads_79 (by decide) hf (fun hf => ?_) (fun hf => ?_)
                  · exact K15  _ _ _ hf hP hD hS (lv_sub hl [0, 1, 4, 5] rfl)
                  · refine lv_iconst (pc := 82) (v := (1 : Int32)) hx hb dX9_heads_82 (by decide) ?_
                    refine lv_goto (pc := 83) (tgt := 87) hx hb dX9_heads_83 (by decide) ?_
                    exact K16 _ _ _ _ hf hP hD hS (lv_sub hl [0, 1, 4, 5] rfl)
              have L52 : ∀ (n : Nat), ∀ (y10 : Int32) (H : Heap) (locs : List Loc) (ls : Array Slot), f_X9_heads_L52 mo_hands mo_cuts_1 y4 y5 y6 k12 n y10 = some (r, r_mo_cuts) → va_P D vwCl (w_X9 cI cJ cZ cS mo_A mo_looks_A mo_period_A mo_shut_A mo_phase_A mo_quarters_A mo_tall_A mo_pairs_A mo_pad_A mo_cuts_A mo_at_A mo_first_A mo_kept_A mo_isKept_A mo_people mo_shots mo_looks mo_bride mo_hands mo_period mo_shut mo_phase mo_flash mo_quarters mo_tired mo_rows mo_columns mo_rise mo_tall mo_pairs mo_pad mo_padMany mo_cuts_1 mo_at mo_first mo_kept mo_isKept mo_keptAt mo_isWriting) H → va_D A (w_X9 cI cJ cZ cS mo_A mo_looks_A mo_period_A mo_shut_A mo_phase_A mo_quarters_A mo_tall_A mo_pairs_A mo_pad_A mo_cuts_A mo_at_A mo_first_A mo_kept_A mo_isKept_A mo_people mo_shots mo_looks mo_bride mo_hands mo_period mo_shut mo_phase mo_flash mo_quarters mo_tired mo_rows mo_columns mo_rise mo_tall mo_pairs mo_pad mo_padMany mo_cuts_1 mo_at mo_first mo_kept mo_isKept mo_keptAt mo_isWriting) → va_S A s.heap H locs → lv_has ls 6 [(0, .ref mo_A), (1, .int p1), (2, .int y4), (3, .int y5), (4, .int y6), (5, .int y10)] → W p l e (roR 3 70) s m args below meth c H locs 0 0 Q (F0 m 52 ls []) := by
                intro n
                induction n with
                | zero =>
                  intro y10 H locs ls hf
                  rw [f_X9_heads_L52] at hf
                  cases hf
                | succ n ih =>
                  intro y10 H locs ls hf hP hD hS hl
                  rw [f_X9_heads_L52] at hf
                  refine lv_aload_n (pc := 52) hx hb dX9_heads_52 rfl (lv_at hl 0 rfl) ?_
                  refine lv_iload (pc := 53) hx hb dX9_heads_53 (lv_at hl 4 rfl) ?_
                  refine lv_iload (pc := 55) hx hb dX9_heads_55 (lv_at hl 5 rfl) ?_
                  refine lv_iload_n (pc := 57) hx hb dX9_heads_57 rfl (lv_at hl 3 rfl) ?_
                  refine lv_iload_n (pc := 58) hx hb dX9_heads_58 rfl (lv_at hl 2 rfl) ?_
                  obtain ⟨v14, hv59, hf⟩ := bd_e hf
                  refine ro_Vi (pc := 59) (As := [.int y6, .int y10, .int y5, .int y4]) (rest := []) E (c_X9_goesOn l D cI cJ cZ cS mo_A mo_looks_A mo_period_A mo_shut_A mo_phase_A mo_quarters_A mo_tall_A mo_pairs_A mo_pad_A mo_cuts_A mo_at_A mo_first_A mo_kept_A mo_isKept_A mo_people mo_shots mo_looks mo_bride mo_hands mo_period mo_shut mo_phase mo_flash mo_quarters mo_tired mo_rows mo_columns mo_rise mo_tall mo_pairs mo_pad mo_padMany mo_cuts_1 mo_at mo_first mo_kept mo_isKept mo_keptAt mo_isWriting y6 y10 y5 y4 v14 hv59) F_X9_goesOn rfl rfl tw_892 tw_894 tp_33 hP ⟨by decide, by decide⟩ rfl hl.1 (Nat.le_of_ble_eq_true rfl) ⟨by decide, by decide⟩ rfl dX9_heads_59 ?_
                  refine r_if_ne (pc := 62) (tgt := 71) hx hb dX9_heads_62 (by decide) hf (fun hf => ?_) (fun hf => ?_)
                  · exact K12 _ _ _ _ hf hP hD hS hl
                  · refine lv_iinc (pc := 65) (v := (y10 + (1 : Int32))) (lv' := [(5, .int (y10 + (1 : Int32))), (0, .ref mo_A), (1, .int p1), (2, .int y4), (3, .int y5), (4, .int y6)]) hx hb dX9_heads_65 hl (k := 5) rfl (by rfl) (by decide) rfl (fun ls hl => ?_)
                    refine lv_goto (pc := 68) (tgt := 52) hx hb dX9_heads_68 (by decide) ?_
                    exact ih _ _ _ _ hf hP hD hS (lv_sub hl [1, 2, 3, 4, 5, 0] rfl)
              exact L52 N _ _ _ _ hf hP hD hS (lv_sub hl [1, 2, 3, 4, 5, 0] rfl)
        exact L43 N _ _ _ _ _ _ hf hP hD hS (lv_sub hl [3, 4, 2, 1, 0] rfl)
      · refine lv_bipush (pc := 34) (v := (-6 : Int32)) hx hb dX9_heads_34 (by decide) ?_
        cases hf
        exact hQ _ _ _ _ _ dX9_heads_36 rfl hP hD hS
    · refine lv_iload_n (pc := 24) hx hb dX9_heads_24 rfl (lv_at hl 0 rfl) ?_
      cases hf
      exact hQ _ _ _ _ _ dX9_heads_25 rfl hP hD hS
  · refine lv_bipush (pc := 16) (v := (-6 : Int32)) hx hb dX9_heads_16 (by decide) ?_
    cases hf
    exact hQ _ _ _ _ _ dX9_heads_18 rfl hP hD hS
theorem F_X9_fewestBad : CalF yX9_fewestBad cX9_fewestBad 7 (some .int) 2 := ⟨tw_903, tw_10, by decide +kernel⟩
set_option maxRecDepth 100000 in
set_option maxHeartbeats 4000000 in
theorem c_X9_fewestBad (l : Launch) (D : va_G) (cI cJ cZ cS : ClassId) (N : Nat) (mo_A mo_looks_A mo_period_A mo_shut_A mo_phase_A mo_quarters_A mo_tall_A mo_pairs_A mo_pad_A mo_cuts_A mo_at_A mo_first_A mo_kept_A mo_isKept_A : Nat) (mo_people : Int32) (mo_shots : Int32) (mo_looks : Nat → Int32) (mo_bride : Int32) (mo_hands : Int32) (mo_period : Nat → Int32) (mo_shut : Nat → Int32) (mo_phase : Nat → Int32) (mo_flash : Int32) (mo_quarters : Nat → Int32) (mo_tired : Int32) (mo_rows : Int32) (mo_columns : Int32) (mo_rise : Int32) (mo_tall : Nat → Int32) (mo_pairs : Nat → Int32) (mo_pad : Nat → Int32) (mo_padMany : Int32) (mo_cuts : Nat → Int32) (mo_at : Nat → Int32) (mo_first : Nat → Int32) (mo_kept : Nat → Int32) (mo_isKept : Nat → Int32) (mo_keptAt : Int32) (mo_isWriting : Int32) (p1 : Int32) (p2 : Int32) (r : Int32) (hf : f_X9_fewestBad N mo_shots mo_looks p1 p2 = some r) : RoC l D cI cJ cZ cS yX9_fewestBad cX9_fewestBad 7 (some .int) 1 22 (w_X9 cI cJ cZ cS mo_A mo_looks_A mo_period_A mo_shut_A mo_phase_A mo_quarters_A mo_tall_A mo_pairs_A mo_pad_A mo_cuts_A mo_at_A mo_first_A mo_kept_A mo_isKept_A mo_people mo_shots mo_looks mo_bride mo_hands mo_period mo_shut mo_phase mo_flash mo_quarters mo_tired mo_rows mo_columns mo_rise mo_tall mo_pairs mo_pad mo_padMany mo_cuts mo_at mo_first mo_kept mo_isKept mo_keptAt mo_isWriting) [.ref mo_A, .int p1, .int p2] (some (.int r)) := by
  refine ro_in_i (own := RX9) (by decide +kernel) rfl (Nat.le_of_ble_eq_true rfl) ?_
  intro p e s m args below meth c ls Q E hQ hP hl
  obtain ⟨hx, hb, hml, hown, hts, hK, hN, hAO⟩ := id E
  have hl : lv_has ls 7 [(0, .ref mo_A), (1, .int p1), (2, .int p2)] := hl
  unfold f_X9_fewestBad at hf
  refine lv_sipush (pc := 0) (v := (1000 : Int32)) hx hb dX9_fewestBad_0 (by decide) ?_
  refine lv_istore_n (pc := 3) (lv' := [(3, .int (1000 : Int32)), (0, .ref mo_A), (1, .int p1), (2, .int p2)]) hx hb dX9_fewestBad_3 rfl hl (by decide) rfl (fun ls hl => ?_)
  refine lv_iconst (pc := 4) (v := (0 : Int32)) hx hb dX9_fewestBad_4 (by decide) ?_
  refine lv_istore (pc := 5) (lv' := [(4, .int (0 : Int32)), (3, .int (1000 : Int32)), (0, .ref mo_A), (1, .int p1), (2, .int p2)]) hx hb dX9_fewestBad_5 hl (by decide) rfl (fun ls hl => ?_)
  obtain ⟨k4, hk4, hf⟩ := lc1_e hf
  have K4 : ∀ (z5 : Int32) (ls : Array Slot), k4 z5 = some r → lv_has ls 7 [(3, .int z5)] → W p l e (roR 1 22) s m args below meth c s.heap [] 0 0 Q (F0 m 74 ls []) := by
    intro z5 ls hf hl
    rw [hk4] at hf
    refine lv_iload_n (pc := 74) hx hb dX9_fewestBad_74 rfl (lv_at hl 0 rfl) ?_
    exact hQ _ _ _ dX9_fewestBad_75 hf
  have L7 : ∀ (n : Nat), ∀ (y1 : Int32) (y2 : Int32) (ls : Array Slot), f_X9_fewestBad_L7 mo_shots mo_looks p1 p2 N k4 n y1 y2 = some r → lv_has ls 7 [(0, .ref mo_A), (1, .int p1), (2, .int p2), (3, .int y1), (4, .int y2)] → W p l e (roR 1 22) s m args below meth c s.heap [] 0 0 Q (F0 m 7 ls []) := by
    intro n
    induction n with
    | zero =>
      intro y1 y2 ls hf
      rw [f_X9_fewestBad_L7] at hf
      cases hf
    | succ n ih =>
      intro y1 y2 ls hf hl
      rw [f_X9_fewestBad_L7] at hf
      refine lv_iload (pc := 7) hx hb dX9_fewestBad_7 (lv_at hl 4 rfl) ?_
      refine lv_aload_n (pc := 9) hx hb dX9_fewestBad_9 rfl (lv_at hl 0 rfl) ?_
      refine va_get (pc := 10) (D := D) (ci := 9) (v := .int mo_shots) (C := RX9) (T := TX9) (N := 25) hx hb hts inG9 hown hK hP 0 rfl rfl 1 (by decide) (hts _ tw_712) (fun _ h9 => h9) rfl dX9_fewestBad_10 ?_
      refine r_ic_ge (pc := 13) (tgt := 74) hx hb dX9_fewestBad_13 (by decide) hf (fun hf => ?_) (fun hf => ?_)
      · exact K4 _ _ hf (lv_sub hl [3] rfl)
      · refine lv_iconst (pc := 16) (v := (0 : Int32)) hx hb dX9_fewestBad_16 (by decide) ?_
        refine lv_istore (pc := 17) (lv' := [(5, .int (0 : Int32)), (0, .ref mo_A), (1, .int p1), (2, .int p2), (3, .int y1), (4, .int y2)]) hx hb dX9_fewestBad_17 hl (by decide) rfl (fun ls hl => ?_)
        refine lv_iload_n (pc := 19) hx hb dX9_fewestBad_19 rfl (lv_at hl 2 rfl) ?_
        refine lv_istore (pc := 20) (lv' := [(6, .int p1), (5, .int (0 : Int32)), (0, .ref mo_A), (1, .int p1), (2, .int p2), (3, .int y1), (4, .int y2)]) hx hb dX9_fewestBad_20 hl (by decide) rfl (fun ls hl => ?_)
        obtain ⟨k9, hk9, hf⟩ := lc1_e hf
        have K9 : ∀ (z10 : Int32) (ls : Array Slot), k9 z10 = some r → lv_has ls 7 [(0, .ref mo_A), (1, .int p1), (2, .int p2), (3, .int y1), (4, .int y2), (5, .int z10)] → W p l e (roR 1 22) s m args below meth c s.heap [] 0 0 Q (F0 m 55 ls []) := by
          intro z10 ls hf hl
          rw [hk9] at hf
          refine lv_iload (pc := 55) hx hb dX9_fewestBad_55 (lv_at hl 5 rfl) ?_
          refine lv_iload_n (pc := 57) hx hb dX9_fewestBad_57 rfl (lv_at hl 3 rfl) ?_
          obtain ⟨k14, hk14, hf⟩ := lc1_e hf
          have K14 : ∀ (x15 : Int32) (ls : Array Slot), k14 x15 = some r → lv_has ls 7 [(0, .ref mo_A), (1, .int p1), (2, .int p2), (4, .int y2)] → W p l e (roR 1 22) s m args below meth c s.heap [] 0 0 Q (F0 m 67 ls [.int x15]) := by
            intro x15 ls hf hl
            rw [hk14] at hf
            refine lv_istore_n (pc := 67) (lv' := [(3, .int x15), (0, .ref mo_A), (1, .int p1), (2, .int p2), (4, .int y2)]) hx hb dX9_fewestBad_67 rfl hl (by decide) rfl (fun ls hl => ?_)
            refine lv_iinc (pc := 68) (v := (y2 + (1 : Int32))) (lv' := [(4, .int (y2 + (1 : Int32))), (3, .int x15), (0, .ref mo_A), (1, .int p1), (2, .int p2)]) hx hb dX9_fewestBad_68 hl (k := 4) rfl (by rfl) (by decide) rfl (fun ls hl => ?_)
            refine lv_goto (pc := 71) (tgt := 7) hx hb dX9_fewestBad_71 (by decide) ?_
            exact ih _ _ _ hf (lv_sub hl [2, 3, 4, 1, 0] rfl)
          refine r_ic_ge (pc := 58) (tgt := 66) hx hb dX9_fewestBad_58 (by decide) hf (fun hf => ?_) (fun hf => ?_)
          · refine lv_iload_n (pc := 66) hx hb dX9_fewestBad_66 rfl (lv_at hl 3 rfl) ?_
            exact K14 _ _ hf (lv_sub hl [0, 1, 2, 4] rfl)
          · refine lv_iload (pc := 61) hx hb dX9_fewestBad_61 (lv_at hl 5 rfl) ?_
            refine lv_goto (pc := 63) (tgt := 67) hx hb dX9_fewestBad_63 (by decide) ?_
            exact K14 _ _ hf (lv_sub hl [0, 1, 2, 4] rfl)
        have L22 : ∀ (n : Nat), ∀ (y6 : Int32) (y7 : Int32) (ls : Array Slot), f_X9_fewestBad_L22 mo_looks p2 y2 k9 n y6 y7 = some r → lv_has ls 7 [(0, .ref mo_A), (1, .int p1), (2, .int p2), (3, .int y1), (4, .int y2), (5, .int y6), (6, .int y7)] → W p l e (roR 1 22) s m args below meth c s.heap [] 0 0 Q (F0 m 22 ls []) := by
          intro n
          induction n with
          | zero =>
            intro y6 y7 ls hf
            rw [f_X9_fewestBad_L22] at hf
            cases hf
          | succ n ih =>
            intro y6 y7 ls hf hl
            rw [f_X9_fewestBad_L22] at hf
            refine lv_iload (pc := 22) hx hb dX9_fewestBad_22 (lv_at hl 6 rfl) ?_
            refine lv_iload_n (pc := 24) hx hb dX9_fewestBad_24 rfl (lv_at hl 2 rfl) ?_
            refine r_ic_gt (pc := 25) (tgt := 55) hx hb dX9_fewestBad_25 (by decide) hf (fun hf => ?_) (fun hf => ?_)
            · exact K9 _ _ hf (lv_sub hl [0, 1, 2, 3, 4, 5] rfl)
            · refine lv_iload (pc := 28) hx hb dX9_fewestBad_28 (lv_at hl 5 rfl) ?_
              refine lv_aload_n (pc := 30) hx hb dX9_fewestBad_30 rfl (lv_at hl 0 rfl) ?_
              refine lv_iload (pc := 31) hx hb dX9_fewestBad_31 (lv_at hl 4 rfl) ?_
              refine lv_iload (pc := 33) hx hb dX9_fewestBad_33 (lv_at hl 6 rfl) ?_
              obtain ⟨v11, hv35, hf⟩ := bd_e hf
              refine ro_Vi (pc := 35) (As := [.int y2, .int y7]) (rest := [.int y6]) E (c_X9_isOpen l D cI cJ cZ cS mo_A mo_looks_A mo_period_A mo_shut_A mo_phase_A mo_quarters_A mo_tall_A mo_pairs_A mo_pad_A mo_cuts_A mo_at_A mo_first_A mo_kept_A mo_isKept_A mo_people mo_shots mo_looks mo_bride mo_hands mo_period mo_shut mo_phase mo_flash mo_quarters mo_tired mo_rows mo_columns mo_rise mo_tall mo_pairs mo_pad mo_padMany mo_cuts mo_at mo_first mo_kept mo_isKept mo_keptAt mo_isWriting y2 y7 v11 hv35) F_X9_isOpen rfl rfl tw_849 tw_851 tp_27 hP ⟨by decide, by decide⟩ rfl hl.1 (Nat.le_of_ble_eq_true rfl) ⟨by decide, by decide⟩ rfl dX9_fewestBad_35 ?_
              obtain ⟨k12, hk12, hf⟩ := lc1_e hf
              have K12 : ∀ (x13 : Int32) (ls : Array Slot), k12 x13 = some r → lv_has ls 7 [(0, .ref mo_A), (1, .int p1), (2, .int p2), (3, .int y1), (4, .int y2), (6, .int y7)] → W p l e (roR 1 22) s m args below meth c s.heap [] 0 0 Q (F0 m 46 ls [.int x13, .int y6]) := by
                intro x13 ls hf hl
                rw [hk12] at hf
                refine lv_iadd (pc := 46) hx hb dX9_fewestBad_46 ?_
                refine lv_istore (pc := 47) (lv' := [(5, .int (y6 + x13)), (0, .ref mo_A), (1, .int p1), (2, .int p2), (3, .int y1), (4, .int y2), (6, .int y7)]) hx hb dX9_fewestBad_47 hl (by decide) rfl (fun ls hl => ?_)
                refine lv_iinc (pc := 49) (v := (y7 + (1 : Int32))) (lv' := [(6, .int (y7 + (1 : Int32))), (5, .int (y6 + x13)), (0, .ref mo_A), (1, .int p1), (2, .int p2), (3, .int y1), (4, .int y2)]) hx hb dX9_fewestBad_49 hl (k := 6) rfl (by rfl) (by decide) rfl (fun ls hl => ?_)
                refine lv_goto (pc := 52) (tgt := 22) hx hb dX9_fewestBad_52 (by decide) ?_
                exact ih _ _ _ hf (lv_sub hl [2, 3, 4, 5, 6, 1, 0] rfl)
              refine r_if_eq (pc := 38) (tgt := 45) hx hb dX9_fewestBad_38 (by decide) hf (fun hf => ?_) (fun hf => ?_)
              · refine lv_iconst (pc := 45) (v := (1 : Int32)) hx hb dX9_fewestBad_45 (by decide) ?_
                exact K12 _ _ hf (lv_sub hl [0, 1, 2, 3, 4, 6] rfl)
              · refine lv_iconst (pc := 41) (v := (0 : Int32)) hx hb dX9_fewestBad_41 (by decide) ?_
                refine lv_goto (pc := 42) (tgt := 46) hx hb dX9_fewestBad_42 (by decide) ?_
                exact K12 _ _ hf (lv_sub hl [0, 1, 2, 3, 4, 6] rfl)
        exact L22 N _ _ _ hf (lv_sub hl [2, 3, 4, 5, 6, 1, 0] rfl)
  exact L7 N _ _ _ hf (lv_sub hl [2, 3, 4, 1, 0] rfl)
theorem F_X9_left : CalF yX9_left cX9_left 5 (some .int) 0 := ⟨tw_899, tw_10, by decide +kernel⟩
set_option maxRecDepth 100000 in
set_option maxHeartbeats 4000000 in
theorem c_X9_left (l : Launch) (D : va_G) (cI cJ cZ cS : ClassId) (N : Nat) (mo_A mo_looks_A mo_period_A mo_shut_A mo_phase_A mo_quarters_A mo_tall_A mo_pairs_A mo_pad_A mo_cuts_A mo_at_A mo_first_A mo_kept_A mo_isKept_A : Nat) (mo_people : Int32) (mo_shots : Int32) (mo_looks : Nat → Int32) (mo_bride : Int32) (mo_hands : Int32) (mo_period : Nat → Int32) (mo_shut : Nat → Int32) (mo_phase : Nat → Int32) (mo_flash : Int32) (mo_quarters : Nat → Int32) (mo_tired : Int32) (mo_rows : Int32) (mo_columns : Int32) (mo_rise : Int32) (mo_tall : Nat → Int32) (mo_pairs : Nat → Int32) (mo_pad : Nat → Int32) (mo_padMany : Int32) (mo_cuts : Nat → Int32) (mo_at : Nat → Int32) (mo_first : Nat → Int32) (mo_kept : Nat → Int32) (mo_isKept : Nat → Int32) (mo_keptAt : Int32) (mo_isWriting : Int32) (r : Int32) (hf : f_X9_left N mo_people mo_shots mo_looks mo_hands = some r) : RoC l D cI cJ cZ cS yX9_left cX9_left 5 (some .int) 2 48 (w_X9 cI cJ cZ cS mo_A mo_looks_A mo_period_A mo_shut_A mo_phase_A mo_quarters_A mo_tall_A mo_pairs_A mo_pad_A mo_cuts_A mo_at_A mo_first_A mo_kept_A mo_isKept_A mo_people mo_shots mo_looks mo_bride mo_hands mo_period mo_shut mo_phase mo_flash mo_quarters mo_tired mo_rows mo_columns mo_rise mo_tall mo_pairs mo_pad mo_padMany mo_cuts mo_at mo_first mo_kept mo_isKept mo_keptAt mo_isWriting) [.ref mo_A] (some (.int r)) := by
  refine ro_in_i (own := RX9) (by decide +kernel) rfl (Nat.le_of_ble_eq_true rfl) ?_
  intro p e s m args below meth c ls Q E hQ hP hl
  obtain ⟨hx, hb, hml, hown, hts, hK, hN, hAO⟩ := id E
  have hl : lv_has ls 5 [(0, .ref mo_A)] := hl
  unfold f_X9_left at hf
  refine lv_aload_n (pc := 0) hx hb dX9_left_0 rfl (lv_at hl 0 rfl) ?_
  refine va_get (pc := 1) (D := D) (ci := 9) (v := .int mo_shots) (C := RX9) (T := TX9) (N := 25) hx hb hts inG9 hown hK hP 0 rfl rfl 1 (by decide) (hts _ tw_712) (fun _ h9 => h9) rfl dX9_left_1 ?_
  refine r_if_ne (pc := 4) (tgt := 10) hx hb dX9_left_4 (by decide) hf (fun hf => ?_) (fun hf => ?_)
  · refine lv_iconst (pc := 10) (v := (0 : Int32)) hx hb dX9_left_10 (by decide) ?_
    refine lv_istore_n (pc := 11) (lv' := [(1, .int (0 : Int32)), (0, .ref mo_A)]) hx hb dX9_left_11 rfl hl (by decide) rfl (fun ls hl => ?_)
    refine lv_iconst (pc := 12) (v := (0 : Int32)) hx hb dX9_left_12 (by decide) ?_
    refine lv_istore_n (pc := 13) (lv' := [(2, .int (0 : Int32)), (1, .int (0 : Int32)), (0, .ref mo_A)]) hx hb dX9_left_13 rfl hl (by decide) rfl (fun ls hl => ?_)
    refine lv_iconst (pc := 14) (v := (0 : Int32)) hx hb dX9_left_14 (by decide) ?_
    refine lv_istore_n (pc := 15) (lv' := [(3, .int (0 : Int32)), (2, .int (0 : Int32)), (1, .int (0 : Int32)), (0, .ref mo_A)]) hx hb dX9_left_15 rfl hl (by decide) rfl (fun ls hl => ?_)
    obtain ⟨k5, hk5, hf⟩ := lc1_e hf
    have K5 : ∀ (z6 : Int32) (ls : Array Slot), k5 z6 = some r → lv_has ls 5 [(1, .int z6)] → W p l e (roR 2 48) s m args below meth c s.heap [] 0 0 Q (F0 m 76 ls []) := by
      intro z6 ls hf hl
      rw [hk5] at hf
      refine lv_iload_n (pc := 76) hx hb dX9_left_76 rfl (lv_at hl 0 rfl) ?_
      exact hQ _ _ _ dX9_left_77 hf
    have L16 : ∀ (n : Nat), ∀ (y1 : Int32) (y2 : Int32) (y3 : Int32) (ls : Array Slot), f_X9_left_L16 mo_people mo_shots mo_looks mo_hands N k5 n y1 y2 y3 = some r → lv_has ls 5 [(0, .ref mo_A), (1, .int y1), (2, .int y2), (3, .int y3)] → W p l e (roR 2 48) s m args below meth c s.heap [] 0 0 Q (F0 m 16 ls []) := by
      intro n
      induction n with
      | zero =>
        intro y1 y2 y3 ls hf
        rw [f_X9_left_L16] at hf
        cases hf
      | succ n ih =>
        intro y1 y2 y3 ls hf hl
        rw [f_X9_left_L16] at hf
        refine lv_iload_n (pc := 16) hx hb dX9_left_16 rfl (lv_at hl 3 rfl) ?_
        refine lv_aload_n (pc := 17) hx hb dX9_left_17 rfl (lv_at hl 0 rfl) ?_
        refine va_get (pc := 18) (D := D) (ci := 9) (v := .int mo_people) (C := RX9) (T := TX9) (N := 25) hx hb hts inG9 hown hK hP 0 rfl rfl 0 (by decide) (hts _ tw_711) (fun _ h9 => h9) rfl dX9_left_18 ?_
        refine r_ic_ge (pc := 21) (tgt := 76) hx hb dX9_left_21 (by decide) hf (fun hf => ?_) (fun hf => ?_)
        · exact K5 _ _ hf (lv_sub hl [1] rfl)
        · refine lv_iload_n (pc := 24) hx hb dX9_left_24 rfl (lv_at hl 3 rfl) ?_
          refine lv_aload_n (pc := 25) hx hb dX9_left_25 rfl (lv_at hl 0 rfl) ?_
          refine va_get (pc := 26) (D := D) (ci := 9) (v := .int mo_people) (C := RX9) (T := TX9) (N := 25) hx hb hts inG9 hown hK hP 0 rfl rfl 0 (by decide) (hts _ tw_711) (fun _ h9 => h9) rfl dX9_left_26 ?_
          refine lv_iconst (pc := 29) (v := (1 : Int32)) hx hb dX9_left_29 (by decide) ?_
          refine lv_isub (pc := 30) hx hb dX9_left_30 ?_
          obtain ⟨k8, hk8, hf⟩ := lc1_e hf
          have K8 : ∀ (x9 : Int32) (ls : Array Slot), k8 x9 = some r → lv_has ls 5 [(0, .ref mo_A), (1, .int y1), (2, .int y2), (3, .int y3)] → W p l e (roR 2 48) s m args below meth c s.heap [] 0 0 Q (F0 m 50 ls [.int x9]) := by
            intro x9 ls hf hl
            rw [hk8] at hf
            refine lv_istore (pc := 50) (lv' := [(4, .int x9), (0, .ref mo_A), (1, .int y1), (2, .int y2), (3, .int y3)]) hx hb dX9_left_50 hl (by decide) rfl (fun ls hl => ?_)
            refine lv_iload (pc := 52) hx hb dX9_left_52 (lv_at hl 0 rfl) ?_
            obtain ⟨k10, hk10, hf⟩ := lc2_e hf
            have K10 : ∀ (x12 : Int32) (x13 : Int32) (ls : Array Slot), k10 x12 x13 = some r → lv_has ls 5 [(0, .ref mo_A), (1, .int x12), (2, .int x13), (3, .int y3)] → W p l e (roR 2 48) s m args below meth c s.heap [] 0 0 Q (F0 m 70 ls []) := by
              intro x12 x13 ls hf hl
              rw [hk10] at hf
              refine lv_iinc (pc := 70) (v := (y3 + (1 : Int32))) (lv' := [(3, .int (y3 + (1 : Int32))), (0, .ref mo_A), (1, .int x12), (2, .int x13)]) hx hb dX9_left_70 hl (k := 3) rfl (by rfl) (by decide) rfl (fun ls hl => ?_)
              refine lv_goto (pc := 73) (tgt := 16) hx hb dX9_left_73 (by decide) ?_
              exact ih _ _ _ _ hf (lv_sub hl [1, 2, 3, 0] rfl)
            refine r_if_eq (pc := 54) (tgt := 70) hx hb dX9_left_54 (by decide) hf (fun hf => ?_) (fun hf => ?_)
            · exact K10 _ _ _ hf (lv_sub hl [1, 2, 3, 4] rfl)
            · refine lv_iload_n (pc := 57) hx hb dX9_left_57 rfl (lv_at hl 2 rfl) ?_
              refine lv_aload_n (pc := 58) hx hb dX9_left_58 rfl (lv_at hl 1 rfl) ?_
              refine lv_iload_n (pc := 59) hx hb dX9_left_59 rfl (lv_at hl 3 rfl) ?_
              refine lv_iload_n (pc := 60) hx hb dX9_left_60 rfl (lv_at hl 4 rfl) ?_
              obtain ⟨v11, hv61, hf⟩ := bd_e hf
              refine ro_Vi (pc := 61) (As := [.int y2, .int y3]) (rest := [.int y1]) E (c_X9_fewestBad l D cI cJ cZ cS N mo_A mo_looks_A mo_period_A mo_shut_A mo_phase_A mo_quarters_A mo_tall_A mo_pairs_A mo_pad_A mo_cuts_A mo_at_A mo_first_A mo_kept_A mo_isKept_A mo_people mo_shots mo_looks mo_bride mo_hands mo_period mo_shut mo_phase mo_flash mo_quarters mo_tired mo_rows mo_columns mo_rise mo_tall mo_pairs mo_pad mo_padMany mo_cuts mo_at mo_first mo_kept mo_isKept mo_keptAt mo_isWriting y2 y3 v11 hv61) F_X9_fewestBad rfl rfl tw_900 tw_902 tp_34 hP ⟨by decide, by decide⟩ rfl hl.1 (Nat.le_of_ble_eq_true rfl) ⟨by decide, by decide⟩ rfl dX9_left_61 ?_
              refine lv_iadd (pc := 64) hx hb dX9_left_64 ?_
              refine lv_istore_n (pc := 65) (lv' := [(1, .int (y1 + v11)), (4, .int x9), (0, .ref mo_A), (2, .int y2), (3, .int y3)]) hx hb dX9_left_65 rfl hl (by decide) rfl (fun ls hl => ?_)
              refine lv_iload_n (pc := 66) hx hb dX9_left_66 rfl (lv_at hl 4 rfl) ?_
              refine lv_iconst (pc := 67) (v := (1 : Int32)) hx hb dX9_left_67 (by decide) ?_
              refine lv_iadd (pc := 68) hx hb dX9_left_68 ?_
              refine lv_istore_n (pc := 69) (lv' := [(2, .int (y3 + (1 : Int32))), (1, .int (y1 + v11)), (4, .int x9), (0, .ref mo_A), (3, .int y3)]) hx hb dX9_left_69 rfl hl (by decide) rfl (fun ls hl => ?_)
              exact K10 _ _ _ hf (lv_sub hl [3, 1, 0, 4] rfl)
          obtain ⟨k7, hk7, hf⟩ := lc0_e hf
          have K7 : ∀  (ls : Array Slot), k7 = some r → lv_has ls 5 [(0, .ref mo_A), (1, .int y1), (2, .int y2), (3, .int y3)] → W p l e (roR 2 48) s m args below meth c s.heap [] 0 0 Q (F0 m 45 ls []) := by
            intro  ls hf hl
            rw [hk7] at hf
            refine lv_iconst (pc := 45) (v := (1 : Int32)) hx hb dX9_left_45 (by decide) ?_
            refine lv_goto (pc := 46) (tgt := 50) hx hb dX9_left_46 (by decide) ?_
            exact K8 _ _ hf hl
          refine r_ic_eq (pc := 31) (tgt := 45) hx hb dX9_left_31 (by decide) hf (fun hf => ?_) (fun hf => ?_)
          · exact K7  _ hf hl
          · refine lv_aload_n (pc := 34) hx hb dX9_left_34 rfl (lv_at hl 0 rfl) ?_
            refine va_get (pc := 35) (D := D) (ci := 9) (v := .int mo_hands) (C := RX9) (T := TX9) (N := 25) hx hb hts inG9 hown hK hP 0 rfl rfl 4 (by decide) (hts _ tw_715) (fun _ h9 => h9) rfl dX9_left_35 ?_
            refine lv_iload_n (pc := 38) hx hb dX9_left_38 rfl (lv_at hl 3 rfl) ?_
            refine lv_ishr (pc := 39) hx hb dX9_left_39 ?_
            refine lv_iconst (pc := 40) (v := (1 : Int32)) hx hb dX9_left_40 (by decide) ?_
            refine lv_iand (pc := 41) hx hb dX9_left_41 ?_
            refine r_if_ne (pc := 42) (tgt := 49) hx hb dX9_left_42 (by decide) hf (fun hf => ?_) (fun hf => ?_)
            · refine lv_iconst (pc := 49) (v := (0 : Int32)) hx hb dX9_left_49 (by decide) ?_
              exact K8 _ _ hf hl
            · exact K7  _ hf hl
    exact L16 N _ _ _ _ hf (lv_sub hl [3, 2, 1, 0] rfl)
  · refine lv_bipush (pc := 7) (v := (-6 : Int32)) hx hb dX9_left_7 (by decide) ?_
    exact hQ _ _ _ dX9_left_9 hf
theorem F_X9_blink : CalF yX9_blink cX9_blink 6 (some .int) 3 := ⟨tw_907, tw_10, by decide +kernel⟩
set_option maxRecDepth 100000 in
set_option maxHeartbeats 4000000 in
theorem c_X9_blink (l : Launch) (D : va_G) (cI cJ cZ cS : ClassId) (mo_A mo_looks_A mo_period_A mo_shut_A mo_phase_A mo_quarters_A mo_tall_A mo_pairs_A mo_pad_A mo_cuts_A mo_at_A mo_first_A mo_kept_A mo_isKept_A : Nat) (mo_people : Int32) (mo_shots : Int32) (mo_looks : Nat → Int32) (mo_bride : Int32) (mo_hands : Int32) (mo_period : Nat → Int32) (mo_shut : Nat → Int32) (mo_phase : Nat → Int32) (mo_flash : Int32) (mo_quarters : Nat → Int32) (mo_tired : Int32) (mo_rows : Int32) (mo_columns : Int32) (mo_rise : Int32) (mo_tall : Nat → Int32) (mo_pairs : Nat → Int32) (mo_pad : Nat → Int32) (mo_padMany : Int32) (mo_cuts : Nat → Int32) (mo_at : Nat → Int32) (mo_first : Nat → Int32) (mo_kept : Nat → Int32) (mo_isKept : Nat → Int32) (mo_keptAt : Int32) (mo_isWriting : Int32) (p1 : Int32) (p2 : Int32) (p3 : Int32) (sz : Nat) (r : Int32) (r_mo_period : Nat → Int32) (r_mo_shut : Nat → Int32) (r_mo_phase : Nat → Int32) (hf : f_X9_blink mo_people mo_period mo_shut mo_phase p1 p2 p3 = some (r, r_mo_period, r_mo_shut, r_mo_phase)) : RwC l D cI cJ cZ cS yX9_blink cX9_blink 6 (some .int) 2 46 (w_X9 cI cJ cZ cS mo_A mo_looks_A mo_period_A mo_shut_A mo_phase_A mo_quarters_A mo_tall_A mo_pairs_A mo_pad_A mo_cuts_A mo_at_A mo_first_A mo_kept_A mo_isKept_A mo_people mo_shots mo_looks mo_bride mo_hands mo_period mo_shut mo_phase mo_flash mo_quarters mo_tired mo_rows mo_columns mo_rise mo_tall mo_pairs mo_pad mo_padMany mo_cuts mo_at mo_first mo_kept mo_isKept mo_keptAt mo_isWriting) sz [.ref mo_A, .int p1, .int p2, .int p3] (some (.int r)) (w_X9 cI cJ cZ cS mo_A mo_looks_A mo_period_A mo_shut_A mo_phase_A mo_quarters_A mo_tall_A mo_pairs_A mo_pad_A mo_cuts_A mo_at_A mo_first_A mo_kept_A mo_isKept_A mo_people mo_shots mo_looks mo_bride mo_hands r_mo_period r_mo_shut r_mo_phase mo_flash mo_quarters mo_tired mo_rows mo_columns mo_rise mo_tall mo_pairs mo_pad mo_padMany mo_cuts mo_at mo_first mo_kept mo_isKept mo_keptAt mo_isWriting) := by
  refine rw_in_i (own := RX9) (by decide +kernel) rfl (Nat.le_of_ble_eq_true rfl) ?_
  intro p e s m args below meth c ls Q A E hA hQ hP hD hS hl
  obtain ⟨hx, hb, hml, hown, hts, hK, hN, hAO⟩ := id E
  have hl : lv_has ls 6 [(0, .ref mo_A), (1, .int p1), (2, .int p2), (3, .int p3)] := hl
  unfold f_X9_blink at hf
  obtain ⟨H, hH⟩ : ∃ H, H = s.heap := ⟨_, rfl⟩
  obtain ⟨locs, hlocs⟩ : ∃ L : List Loc, L = [] := ⟨_, rfl⟩
  rw [show W p l e (roR 2 46) s m args below meth c s.heap [] 0 0 Q (F0 m 0 ls []) = W p l e (roR 2 46) s m args below meth c H locs 0 0 Q (F0 m 0 ls []) by rw [hH, hlocs]]
  replace hS : va_S A s.heap H locs := by rw [hH, hlocs]; exact hS
  replace hP : va_P D vwCl (w_X9 cI cJ cZ cS mo_A mo_looks_A mo_period_A mo_shut_A mo_phase_A mo_quarters_A mo_tall_A mo_pairs_A mo_pad_A mo_cuts_A mo_at_A mo_first_A mo_kept_A mo_isKept_A mo_people mo_shots mo_looks mo_bride mo_hands mo_period mo_shut mo_phase mo_flash mo_quarters mo_tired mo_rows mo_columns mo_rise mo_tall mo_pairs mo_pad mo_padMany mo_cuts mo_at mo_first mo_kept mo_isKept mo_keptAt mo_isWriting) H := by rw [hH]; exact hP
  clear hH hlocs
  refine lv_aload_n (pc := 0) hx hb dX9_blink_0 rfl (lv_at hl 0 rfl) ?_
  refine lv_iload_n (pc := 1) hx hb dX9_blink_1 rfl (lv_at hl 1 rfl) ?_
  obtain ⟨v1, hv2, hf⟩ := bd_e hf
  refine ro_Vi (pc := 2) (As := [.int p1]) (rest := []) E (c_X9_isPerson l D cI cJ cZ cS mo_A mo_looks_A mo_period_A mo_shut_A mo_phase_A mo_quarters_A mo_tall_A mo_pairs_A mo_pad_A mo_cuts_A mo_at_A mo_first_A mo_kept_A mo_isKept_A mo_people mo_shots mo_looks mo_bride mo_hands mo_period mo_shut mo_phase mo_flash mo_quarters mo_tired mo_rows mo_columns mo_rise mo_tall mo_pairs mo_pad mo_padMany mo_cuts mo_at mo_first mo_kept mo_isKept mo_keptAt mo_isWriting p1 v1 hv2) F_X9_isPerson rfl rfl tw_800 tw_802 tp_22 hP ⟨by decide, by decide⟩ rfl hl.1 (Nat.le_of_ble_eq_true rfl) ⟨by decide, by decide⟩ rfl dX9_blink_2 ?_
  refine r_if_ne (pc := 5) (tgt := 10) hx hb dX9_blink_5 (by decide) hf (fun hf => ?_) (fun hf => ?_)
  · refine lv_iload_n (pc := 10) hx hb dX9_blink_10 rfl (lv_at hl 2 rfl) ?_
    obtain ⟨k2, hk2, hf⟩ := lc1_e hf
    have K2 : ∀ (x12 : Int32) (H : Heap) (locs : List Loc) (ls : Array Slot), k2 x12 = some (r, r_mo_period, r_mo_shut, r_mo_phase) → va_P D vwCl (w_X9 cI cJ cZ cS mo_A mo_looks_A mo_period_A mo_shut_A mo_phase_A mo_quarters_A mo_tall_A mo_pairs_A mo_pad_A mo_cuts_A mo_at_A mo_first_A mo_kept_A mo_isKept_A mo_people mo_shots mo_looks mo_bride mo_hands mo_period mo_shut mo_phase mo_flash mo_quarters mo_tired mo_rows mo_columns mo_rise mo_tall mo_pairs mo_pad mo_padMany mo_cuts mo_at mo_first mo_kept mo_isKept mo_keptAt mo_isWriting) H → va_D A (w_X9 cI cJ cZ cS mo_A mo_looks_A mo_period_A mo_shut_A mo_phase_A mo_quarters_A mo_tall_A mo_pairs_A mo_pad_A mo_cuts_A mo_at_A mo_first_A mo_kept_A mo_isKept_A mo_people mo_shots mo_looks mo_bride mo_hands mo_period mo_shut mo_phase mo_flash mo_quarters mo_tired mo_rows mo_columns mo_rise mo_tall mo_pairs mo_pad mo_padMany mo_cuts mo_at mo_first mo_kept mo_isKept mo_keptAt mo_isWriting) → va_S A s.heap H locs → lv_has ls 6 [(0, .ref mo_A), (1, .int p1), (2, .int p2), (3, .int p3)] → W p l e (roR 2 46) s m args below meth c H locs 0 0 Q (F0 m 89 ls [.int x12]) := by
      intro x12 H locs ls hf hP hD hS hl
      rw [hk2] at hf
      refine lv_istore (pc := 89) (lv' := [(4, .int x12), (0, .ref mo_A), (1, .int p1), (2, .int p2), (3, .int p3)]) hx hb dX9_blink_89 hl (by decide) rfl (fun ls hl => ?_)
      refine lv_iload (pc := 91) hx hb dX9_blink_91 (lv_at hl 0 rfl) ?_
      refine r_if_ne (pc := 93) (tgt := 99) hx hb dX9_blink_93 (by decide) hf (fun hf => ?_) (fun hf => ?_)
      · refine lv_iload_n (pc := 99) hx hb dX9_blink_99 rfl (lv_at hl 3 rfl) ?_
        obtain ⟨k13, hk13, hf⟩ := lc1_e hf
        have K13 : ∀ (x17 : Int32) (H : Heap) (locs : List Loc) (ls : Array Slot), k13 x17 = some (r, r_mo_period, r_mo_shut, r_mo_phase) → va_P D vwCl (w_X9 cI cJ cZ cS mo_A mo_looks_A mo_period_A mo_shut_A mo_phase_A mo_quarters_A mo_tall_A mo_pairs_A mo_pad_A mo_cuts_A mo_at_A mo_first_A mo_kept_A mo_isKept_A mo_people mo_shots mo_looks mo_bride mo_hands mo_period mo_shut mo_phase mo_flash mo_quarters mo_tired mo_rows mo_columns mo_rise mo_tall mo_pairs mo_pad mo_padMany mo_cuts mo_at mo_first mo_kept mo_isKept mo_keptAt mo_isWriting) H → va_D A (w_X9 cI cJ cZ cS mo_A mo_looks_A mo_period_A mo_shut_A mo_phase_A mo_quarters_A mo_tall_A mo_pairs_A mo_pad_A mo_cuts_A mo_at_A mo_first_A mo_kept_A mo_isKept_A mo_people mo_shots mo_looks mo_bride mo_hands mo_period mo_shut mo_phase mo_flash mo_quarters mo_tired mo_rows mo_columns mo_rise mo_tall mo_pairs mo_pad mo_padMany mo_cuts mo_at mo_first mo_kept mo_isKept mo_keptAt mo_isWriting) → va_S A s.heap H locs → lv_has ls 6 [(0, .ref mo_A), (1, .int p1), (2, .int p2), (3, .int p3)] → W p l e (roR 2 46) s m args below meth c H locs 0 0 Q (F0 m 132 ls [.int x17]) := by
          intro x17 H locs ls hf hP hD hS hl
          rw [hk13] at hf
          refine lv_istore (pc := 132) (lv' := [(5, .int x17), (0, .ref mo_A), (1, .int p1), (2, .int p2), (3, .int p3)]) hx hb dX9_blink_132 hl (by decide) rfl (fun ls hl => ?_)
          refine lv_aload_n (pc := 134) hx hb dX9_blink_134 rfl (lv_at hl 1 rfl) ?_
          refine va_get (pc := 135) (D := D) (ci := 9) (v := .ref mo_period_A) (C := RX9) (T := TX9) (N := 25) hx hb hts inG9 hown hK hP 0 rfl rfl 5 (by decide) (hts _ tw_716) (fun _ h9 => h9) rfl dX9_blink_135 ?_
          refine lv_iload_n (pc := 138) hx hb dX9_blink_138 rfl (lv_at hl 2 rfl) ?_
          refine lv_iload_n (pc := 139) hx hb dX9_blink_139 rfl (lv_at hl 3 rfl) ?_
          obtain ⟨k18, hk18, hf⟩ := lc1_e hf
          have K18 : ∀ (x20 : Int32) (H : Heap) (locs : List Loc) (ls : Array Slot), k18 x20 = some (r, r_mo_period, r_mo_shut, r_mo_phase) → va_P D vwCl (w_X9 cI cJ cZ cS mo_A mo_looks_A mo_period_A mo_shut_A mo_phase_A mo_quarters_A mo_tall_A mo_pairs_A mo_pad_A mo_cuts_A mo_at_A mo_first_A mo_kept_A mo_isKept_A mo_people mo_shots mo_looks mo_bride mo_hands mo_period mo_shut mo_phase mo_flash mo_quarters mo_tired mo_rows mo_columns mo_rise mo_tall mo_pairs mo_pad mo_padMany mo_cuts mo_at mo_first mo_kept mo_isKept mo_keptAt mo_isWriting) H → va_D A (w_X9 cI cJ cZ cS mo_A mo_looks_A mo_period_A mo_shut_A mo_phase_A mo_quarters_A mo_tall_A mo_pairs_A mo_pad_A mo_cuts_A mo_at_A mo_first_A mo_kept_A mo_isKept_A mo_people mo_shots mo_looks mo_bride mo_hands mo_period mo_shut mo_phase mo_flash mo_quarters mo_tired mo_rows mo_columns mo_rise mo_tall mo_pairs mo_pad mo_padMany mo_cuts mo_at mo_first mo_kept mo_isKept mo_keptAt mo_isWriting) → va_S A s.heap H locs → lv_has ls 6 [(0, .ref mo_A), (1, .int p1), (2, .int p2), (3, .int p3), (5, .int x17)] → W p l e (roR 2 46) s m args below meth c H locs 0 0 Q (F0 m 153 ls [.int x20, .int p1, .ref mo_period_A]) := by
            intro x20 H locs ls hf hP hD hS hl
            rw [hk18] at hf
            refine r_iast (pc := 153) hx hb hK hP hD hS 2 0 rfl rfl hf dX9_blink_153 (fun mo_period_21 H locs hf hP hD hS => ?_)
            have hP : va_P D vwCl (w_X9 cI cJ cZ cS mo_A mo_looks_A mo_period_A mo_shut_A mo_phase_A mo_quarters_A mo_tall_A mo_pairs_A mo_pad_A mo_cuts_A mo_at_A mo_first_A mo_kept_A mo_isKept_A mo_people mo_shots mo_looks mo_bride mo_hands mo_period_21 mo_shut mo_phase mo_flash mo_quarters mo_tired mo_rows mo_columns mo_rise mo_tall mo_pairs mo_pad mo_padMany mo_cuts mo_at mo_first mo_kept mo_isKept mo_keptAt mo_isWriting) H := hP
            have hD : va_D A (w_X9 cI cJ cZ cS mo_A mo_looks_A mo_period_A mo_shut_A mo_phase_A mo_quarters_A mo_tall_A mo_pairs_A mo_pad_A mo_cuts_A mo_at_A mo_first_A mo_kept_A mo_isKept_A mo_people mo_shots mo_looks mo_bride mo_hands mo_period_21 mo_shut mo_phase mo_flash mo_quarters mo_tired mo_rows mo_columns mo_rise mo_tall mo_pairs mo_pad mo_padMany mo_cuts mo_at mo_first mo_kept mo_isKept mo_keptAt mo_isWriting) := hD
            refine lv_aload_n (pc := 154) hx hb dX9_blink_154 rfl (lv_at hl 0 rfl) ?_
            refine va_get (pc := 155) (D := D) (ci := 9) (v := .ref mo_shut_A) (C := RX9) (T := TX9) (N := 25) hx hb hts inG9 hown hK hP 0 rfl rfl 6 (by decide) (hts _ tw_717) (fun _ h9 => h9) rfl dX9_blink_155 ?_
            refine lv_iload_n (pc := 158) hx hb dX9_blink_158 rfl (lv_at hl 1 rfl) ?_
            refine lv_iload_n (pc := 159) hx hb dX9_blink_159 rfl (lv_at hl 2 rfl) ?_
            refine lv_iconst (pc := 160) (v := (1 : Int32)) hx hb dX9_blink_160 (by decide) ?_
            obtain ⟨k22, hk22, hf⟩ := lc1_e hf
            have K22 : ∀ (x24 : Int32) (H : Heap) (locs : List Loc) (ls : Array Slot), k22 x24 = some (r, r_mo_period, r_mo_shut, r_mo_phase) → va_P D vwCl (w_X9 cI cJ cZ cS mo_A mo_looks_A mo_period_A mo_shut_A mo_phase_A mo_quarters_A mo_tall_A mo_pairs_A mo_pad_A mo_cuts_A mo_at_A mo_first_A mo_kept_A mo_isKept_A mo_people mo_shots mo_looks mo_bride mo_hands mo_period_21 mo_shut mo_phase mo_flash mo_quarters mo_tired mo_rows mo_columns mo_rise mo_tall mo_pairs mo_pad mo_padMany mo_cuts mo_at mo_first mo_kept mo_isKept mo_keptAt mo_isWriting) H → va_D A (w_X9 cI cJ cZ cS mo_A mo_looks_A mo_period_A mo_shut_A mo_phase_A mo_quarters_A mo_tall_A mo_pairs_A mo_pad_A mo_cuts_A mo_at_A mo_first_A mo_kept_A mo_isKept_A mo_people mo_shots mo_looks mo_bride mo_hands mo_period_21 mo_shut mo_phase mo_flash mo_quarters mo_tired mo_rows mo_columns mo_rise mo_tall mo_pairs mo_pad mo_padMany mo_cuts mo_at mo_first mo_kept mo_isKept mo_keptAt mo_isWriting) → va_S A s.heap H locs → lv_has ls 6 [(0, .ref mo_A), (1, .int p1), (2, .int p2), (3, .int p3), (5, .int x17)] → W p l e (roR 2 46) s m args below meth c H locs 0 0 Q (F0 m 174 ls [.int x24, .int p1, .ref mo_shut_A]) := by
              intro x24 H locs ls hf hP hD hS hl
              rw [hk22] at hf
              refine r_iast (pc := 174) hx hb hK hP hD hS 3 0 rfl rfl hf dX9_blink_174 (fun mo_shut_25 H locs hf hP hD hS => ?_)
              have hP : va_P D vwCl (w_X9 cI cJ cZ cS mo_A mo_looks_A mo_period_A mo_shut_A mo_phase_A mo_quarters_A mo_tall_A mo_pairs_A mo_pad_A mo_cuts_A mo_at_A mo_first_A mo_kept_A mo_isKept_A mo_people mo_shots mo_looks mo_bride mo_hands mo_period_21 mo_shut_25 mo_phase mo_flash mo_quarters mo_tired mo_rows mo_columns mo_rise mo_tall mo_pairs mo_pad mo_padMany mo_cuts mo_at mo_first mo_kept mo_isKept mo_keptAt mo_isWriting) H := hP
              have hD : va_D A (w_X9 cI cJ cZ cS mo_A mo_looks_A mo_period_A mo_shut_A mo_phase_A mo_quarters_A mo_tall_A mo_pairs_A mo_pad_A mo_cuts_A mo_at_A mo_first_A mo_kept_A mo_isKept_A mo_people mo_shots mo_looks mo_bride mo_hands mo_period_21 mo_shut_25 mo_phase mo_flash mo_quarters mo_tired mo_rows mo_columns mo_rise mo_tall mo_pairs mo_pad mo_padMany mo_cuts mo_at mo_first mo_kept mo_isKept mo_keptAt mo_isWriting) := hD
              refine lv_aload_n (pc := 175) hx hb dX9_blink_175 rfl (lv_at hl 0 rfl) ?_
              refine va_get (pc := 176) (D := D) (ci := 9) (v := .ref mo_phase_A) (C := RX9) (T := TX9) (N := 25) hx hb hts inG9 hown hK hP 0 rfl rfl 7 (by decide) (hts _ tw_718) (fun _ h9 => h9) rfl dX9_blink_176 ?_
              refine lv_iload_n (pc := 179) hx hb dX9_blink_179 rfl (lv_at hl 1 rfl) ?_
              refine lv_iload_n (pc := 180) hx hb dX9_blink_180 rfl (lv_at hl 2 rfl) ?_
              refine lv_iconst (pc := 181) (v := (2 : Int32)) hx hb dX9_blink_181 (by decide) ?_
              obtain ⟨k26, hk26, hf⟩ := lc1_e hf
              have K26 : ∀ (x28 : Int32) (H : Heap) (locs : List Loc) (ls : Array Slot), k26 x28 = some (r, r_mo_period, r_mo_shut, r_mo_phase) → va_P D vwCl (w_X9 cI cJ cZ cS mo_A mo_looks_A mo_period_A mo_shut_A mo_phase_A mo_quarters_A mo_tall_A mo_pairs_A mo_pad_A mo_cuts_A mo_at_A mo_first_A mo_kept_A mo_isKept_A mo_people mo_shots mo_looks mo_bride mo_hands mo_period_21 mo_shut_25 mo_phase mo_flash mo_quarters mo_tired mo_rows mo_columns mo_rise mo_tall mo_pairs mo_pad mo_padMany mo_cuts mo_at mo_first mo_kept mo_isKept mo_keptAt mo_isWriting) H → va_D A (w_X9 cI cJ cZ cS mo_A mo_looks_A mo_period_A mo_shut_A mo_phase_A mo_quarters_A mo_tall_A mo_pairs_A mo_pad_A mo_cuts_A mo_at_A mo_first_A mo_kept_A mo_isKept_A mo_people mo_shots mo_looks mo_bride mo_hands mo_period_21 mo_shut_25 mo_phase mo_flash mo_quarters mo_tired mo_rows mo_columns mo_rise mo_tall mo_pairs mo_pad mo_padMany mo_cuts mo_at mo_first mo_kept mo_isKept mo_keptAt mo_isWriting) → va_S A s.heap H locs → lv_has ls 6 [(5, .int x17)] → W p l e (roR 2 46) s m args below meth c H locs 0 0 Q (F0 m 195 ls [.int x28, .int p1, .ref mo_phase_A]) := by
                intro x28 H locs ls hf hP hD hS hl
                rw [hk26] at hf
                refine r_iast (pc := 195) hx hb hK hP hD hS 4 0 rfl rfl hf dX9_blink_195 (fun mo_phase_29 H locs hf hP hD hS => ?_)
                have hP : va_P D vwCl (w_X9 cI cJ cZ cS mo_A mo_looks_A mo_period_A mo_shut_A mo_phase_A mo_quarters_A mo_tall_A mo_pairs_A mo_pad_A mo_cuts_A mo_at_A mo_first_A mo_kept_A mo_isKept_A mo_people mo_shots mo_looks mo_bride mo_hands mo_period_21 mo_shut_25 mo_phase_29 mo_flash mo_quarters mo_tired mo_rows mo_columns mo_rise mo_tall mo_pairs mo_pad mo_padMany mo_cuts mo_at mo_first mo_kept mo_isKept mo_keptAt mo_isWriting) H := hP
                have hD : va_D A (w_X9 cI cJ cZ cS mo_A mo_looks_A mo_period_A mo_shut_A mo_phase_A mo_quarters_A mo_tall_A mo_pairs_A mo_pad_A mo_cuts_A mo_at_A mo_first_A mo_kept_A mo_isKept_A mo_people mo_shots mo_looks mo_bride mo_hands mo_period_21 mo_shut_25 mo_phase_29 mo_flash mo_quarters mo_tired mo_rows mo_columns mo_rise mo_tall mo_pairs mo_pad mo_padMany mo_cuts mo_at mo_first mo_kept mo_isKept mo_keptAt mo_isWriting) := hD
                refine lv_iload (pc := 196) hx hb dX9_blink_196 (lv_at hl 0 rfl) ?_
                cases hf
                exact hQ _ _ _ _ _ dX9_blink_198 rfl hP hD hS
              refine r_ic_ne (pc := 182) (tgt := 189) hx hb dX9_blink_182 (by decide) hf (fun hf => ?_) (fun hf => ?_)
              · refine lv_aload_n (pc := 189) hx hb dX9_blink_189 rfl (lv_at hl 0 rfl) ?_
                refine va_get (pc := 190) (D := D) (ci := 9) (v := .ref mo_phase_A) (C := RX9) (T := TX9) (N := 25) hx hb hts inG9 hown hK hP 0 rfl rfl 7 (by decide) (hts _ tw_718) (fun _ h9 => h9) rfl dX9_blink_190 ?_
                refine lv_iload_n (pc := 193) hx hb dX9_blink_193 rfl (lv_at hl 1 rfl) ?_
                refine r_iald (pc := 194) hx hb hK hP 4 0 rfl rfl hf dX9_blink_194 (fun v27 hf => ?_)
                exact K26 _ _ _ _ hf hP hD hS (lv_sub hl [4] rfl)
              · refine lv_iload_n (pc := 185) hx hb dX9_blink_185 rfl (lv_at hl 3 rfl) ?_
                refine lv_goto (pc := 186) (tgt := 195) hx hb dX9_blink_186 (by decide) ?_
                exact K26 _ _ _ _ hf hP hD hS (lv_sub hl [4] rfl)
            refine r_ic_ne (pc := 161) (tgt := 168) hx hb dX9_blink_161 (by decide) hf (fun hf => ?_) (fun hf => ?_)
            · refine lv_aload_n (pc := 168) hx hb dX9_blink_168 rfl (lv_at hl 0 rfl) ?_
              refine va_get (pc := 169) (D := D) (ci := 9) (v := .ref mo_shut_A) (C := RX9) (T := TX9) (N := 25) hx hb hts inG9 hown hK hP 0 rfl rfl 6 (by decide) (hts _ tw_717) (fun _ h9 => h9) rfl dX9_blink_169 ?_
              refine lv_iload_n (pc := 172) hx hb dX9_blink_172 rfl (lv_at hl 1 rfl) ?_
              refine r_iald (pc := 173) hx hb hK hP 3 0 rfl rfl hf dX9_blink_173 (fun v23 hf => ?_)
              exact K22 _ _ _ _ hf hP hD hS hl
            · refine lv_iload_n (pc := 164) hx hb dX9_blink_164 rfl (lv_at hl 3 rfl) ?_
              refine lv_goto (pc := 165) (tgt := 174) hx hb dX9_blink_165 (by decide) ?_
              exact K22 _ _ _ _ hf hP hD hS hl
          refine r_if_ne (pc := 140) (tgt := 147) hx hb dX9_blink_140 (by decide) hf (fun hf => ?_) (fun hf => ?_)
          · refine lv_aload_n (pc := 147) hx hb dX9_blink_147 rfl (lv_at hl 1 rfl) ?_
            refine va_get (pc := 148) (D := D) (ci := 9) (v := .ref mo_period_A) (C := RX9) (T := TX9) (N := 25) hx hb hts inG9 hown hK hP 0 rfl rfl 5 (by decide) (hts _ tw_716) (fun _ h9 => h9) rfl dX9_blink_148 ?_
            refine lv_iload_n (pc := 151) hx hb dX9_blink_151 rfl (lv_at hl 2 rfl) ?_
            refine r_iald (pc := 152) hx hb hK hP 2 0 rfl rfl hf dX9_blink_152 (fun v19 hf => ?_)
            exact K18 _ _ _ _ hf hP hD hS (lv_sub hl [1, 2, 3, 4, 0] rfl)
          · refine lv_iload_n (pc := 143) hx hb dX9_blink_143 rfl (lv_at hl 4 rfl) ?_
            refine lv_goto (pc := 144) (tgt := 153) hx hb dX9_blink_144 (by decide) ?_
            exact K18 _ _ _ _ hf hP hD hS (lv_sub hl [1, 2, 3, 4, 0] rfl)
        refine r_if_ne (pc := 100) (tgt := 112) hx hb dX9_blink_100 (by decide) hf (fun hf => ?_) (fun hf => ?_)
        · refine lv_iload_n (pc := 112) hx hb dX9_blink_112 rfl (lv_at hl 3 rfl) ?_
          refine lv_iconst (pc := 113) (v := (1 : Int32)) hx hb dX9_blink_113 (by decide) ?_
          refine r_ic_ne (pc := 114) (tgt := 126) hx hb dX9_blink_114 (by decide) hf (fun hf => ?_) (fun hf => ?_)
          · refine lv_aload_n (pc := 126) hx hb dX9_blink_126 rfl (lv_at hl 1 rfl) ?_
            refine va_get (pc := 127) (D := D) (ci := 9) (v := .ref mo_phase_A) (C := RX9) (T := TX9) (N := 25) hx hb hts inG9 hown hK hP 0 rfl rfl 7 (by decide) (hts _ tw_718) (fun _ h9 => h9) rfl dX9_blink_127 ?_
            refine lv_iload_n (pc := 130) hx hb dX9_blink_130 rfl (lv_at hl 2 rfl) ?_
            refine r_iald (pc := 131) hx hb hK hP 4 0 rfl rfl hf dX9_blink_131 (fun v14 hf => ?_)
            exact K13 _ _ _ _ hf hP hD hS (lv_sub hl [1, 2, 3, 4] rfl)
          · refine lv_aload_n (pc := 117) hx hb dX9_blink_117 rfl (lv_at hl 1 rfl) ?_
            refine va_get (pc := 118) (D := D) (ci := 9) (v := .ref mo_shut_A) (C := RX9) (T := TX9) (N := 25) hx hb hts inG9 hown hK hP 0 rfl rfl 6 (by decide) (hts _ tw_717) (fun _ h9 => h9) rfl dX9_blink_118 ?_
            refine lv_iload_n (pc := 121) hx hb dX9_blink_121 rfl (lv_at hl 2 rfl) ?_
            refine r_iald (pc := 122) hx hb hK hP 3 0 rfl rfl hf dX9_blink_122 (fun v15 hf => ?_)
            refine lv_goto (pc := 123) (tgt := 132) hx hb dX9_blink_123 (by decide) ?_
            exact K13 _ _ _ _ hf hP hD hS (lv_sub hl [1, 2, 3, 4] rfl)
        · refine lv_aload_n (pc := 103) hx hb dX9_blink_103 rfl (lv_at hl 1 rfl) ?_
          refine va_get (pc := 104) (D := D) (ci := 9) (v := .ref mo_period_A) (C := RX9) (T := TX9) (N := 25) hx hb hts inG9 hown hK hP 0 rfl rfl 5 (by decide) (hts _ tw_716) (fun _ h9 => h9) rfl dX9_blink_104 ?_
          refine lv_iload_n (pc := 107) hx hb dX9_blink_107 rfl (lv_at hl 2 rfl) ?_
          refine r_iald (pc := 108) hx hb hK hP 2 0 rfl rfl hf dX9_blink_108 (fun v16 hf => ?_)
          refine lv_goto (pc := 109) (tgt := 132) hx hb dX9_blink_109 (by decide) ?_
          exact K13 _ _ _ _ hf hP hD hS (lv_sub hl [1, 2, 3, 4] rfl)
      · refine lv_bipush (pc := 96) (v := (-2 : Int32)) hx hb dX9_blink_96 (by decide) ?_
        cases hf
        exact hQ _ _ _ _ _ dX9_blink_98 rfl hP hD hS
    refine r_if_ne (pc := 11) (tgt := 46) hx hb dX9_blink_11 (by decide) hf (fun hf => ?_) (fun hf => ?_)
    · refine lv_iload_n (pc := 46) hx hb dX9_blink_46 rfl (lv_at hl 2 rfl) ?_
      refine lv_iconst (pc := 47) (v := (1 : Int32)) hx hb dX9_blink_47 (by decide) ?_
      refine r_ic_ne (pc := 48) (tgt := 67) hx hb dX9_blink_48 (by decide) hf (fun hf => ?_) (fun hf => ?_)
      · refine lv_iload_n (pc := 67) hx hb dX9_blink_67 rfl (lv_at hl 2 rfl) ?_
        refine lv_iconst (pc := 68) (v := (2 : Int32)) hx hb dX9_blink_68 (by decide) ?_
        obtain ⟨k3, hk3, hf⟩ := lc0_e hf
        have K3 : ∀  (H : Heap) (locs : List Loc) (ls : Array Slot), k3 = some (r, r_mo_period, r_mo_shut, r_mo_phase) → va_P D vwCl (w_X9 cI cJ cZ cS mo_A mo_looks_A mo_period_A mo_shut_A mo_phase_A mo_quarters_A mo_tall_A mo_pairs_A mo_pad_A mo_cuts_A mo_at_A mo_first_A mo_kept_A mo_isKept_A mo_people mo_shots mo_looks mo_bride mo_hands mo_period mo_shut mo_phase mo_flash mo_quarters mo_tired mo_rows mo_columns mo_rise mo_tall mo_pairs mo_pad mo_padMany mo_cuts mo_at mo_first mo_kept mo_isKept mo_keptAt mo_isWriting) H → va_D A (w_X9 cI cJ cZ cS mo_A mo_looks_A mo_period_A mo_shut_A mo_phase_A mo_quarters_A mo_tall_A mo_pairs_A mo_pad_A mo_cuts_A mo_at_A mo_first_A mo_kept_A mo_isKept_A mo_people mo_shots mo_looks mo_bride mo_hands mo_period mo_shut mo_phase mo_flash mo_quarters mo_tired mo_rows mo_columns mo_rise mo_tall mo_pairs mo_pad mo_padMany mo_cuts mo_at mo_first mo_kept mo_isKept mo_keptAt mo_isWriting) → va_S A s.heap H locs → lv_has ls 6 [(0, .ref mo_A), (1, .int p1), (2, .int p2), (3, .int p3)] → W p l e (roR 2 46) s m args below meth c H locs 0 0 Q (F0 m 88 ls []) := by
          intro  H locs ls hf hP hD hS hl
          rw [hk3] at hf
          refine lv_iconst (pc := 88) (v := (0 : Int32)) hx hb dX9_blink_88 (by decide) ?_
          exact K2 _ _ _ _ hf hP hD hS hl
        refine r_ic_ne (pc := 69) (tgt := 88) hx hb dX9_blink_69 (by decide) hf (fun hf => ?_) (fun hf => ?_)
        · exact K3  _ _ _ hf hP hD hS hl
        · refine lv_iload_n (pc := 72) hx hb dX9_blink_72 rfl (lv_at hl 3 rfl) ?_
          refine lv_i2l (pc := 73) (v := (Int32.toInt64 p3)) hx hb dX9_blink_73 rfl ?_
          refine lv_lconst (pc := 74) (v := (0 : Int64)) hx hb dX9_blink_74 (by decide) ?_
          refine lv_ldc2 (pc := 75) hx hb hown (hts _ tw_909) dX9_blink_75 ?_
          obtain ⟨v4, hv78, hf⟩ := bd_e hf
          refine ro_Si (pc := 78) (As := [.long (Int32.toInt64 p3), .long (0 : Int64), .long (59 : Int64)]) (rest := []) E (c_X9_in l D cI cJ cZ cS (Int32.toInt64 p3) (0 : Int64) (59 : Int64) v4 hv78) F_X9_in tw_793 tw_794  va_P_nil ⟨by decide, by decide⟩ rfl hl.1 (Nat.le_of_ble_eq_true rfl) ⟨by decide, by decide⟩ rfl dX9_blink_78 ?_
          refine r_if_eq (pc := 81) (tgt := 88) hx hb dX9_blink_81 (by decide) hf (fun hf => ?_) (fun hf => ?_)
          · exact K3  _ _ _ hf hP hD hS hl
          · refine lv_iconst (pc := 84) (v := (1 : Int32)) hx hb dX9_blink_84 (by decide) ?_
            refine lv_goto (pc := 85) (tgt := 89) hx hb dX9_blink_85 (by decide) ?_
            exact K2 _ _ _ _ hf hP hD hS hl
      · refine lv_iload_n (pc := 51) hx hb dX9_blink_51 rfl (lv_at hl 3 rfl) ?_
        refine lv_i2l (pc := 52) (v := (Int32.toInt64 p3)) hx hb dX9_blink_52 rfl ?_
        refine lv_lconst (pc := 53) (v := (0 : Int64)) hx hb dX9_blink_53 (by decide) ?_
        refine lv_aload_n (pc := 54) hx hb dX9_blink_54 rfl (lv_at hl 0 rfl) ?_
        refine va_get (pc := 55) (D := D) (ci := 9) (v := .ref mo_period_A) (C := RX9) (T := TX9) (N := 25) hx hb hts inG9 hown hK hP 0 rfl rfl 5 (by decide) (hts _ tw_716) (fun _ h9 => h9) rfl dX9_blink_55 ?_
        refine lv_iload_n (pc := 58) hx hb dX9_blink_58 rfl (lv_at hl 1 rfl) ?_
        refine r_iald (pc := 59) hx hb hK hP 2 0 rfl rfl hf dX9_blink_59 (fun v5 hf => ?_)
        refine lv_i2l (pc := 60) (v := (Int32.toInt64 v5)) hx hb dX9_blink_60 rfl ?_
        obtain ⟨v6, hv61, hf⟩ := bd_e hf
        refine ro_Si (pc := 61) (As := [.long (Int32.toInt64 p3), .long (0 : Int64), .long (Int32.toInt64 v5)]) (rest := []) E (c_X9_in l D cI cJ cZ cS (Int32.toInt64 p3) (0 : Int64) (Int32.toInt64 v5) v6 hv61) F_X9_in tw_793 tw_794  va_P_nil ⟨by decide, by decide⟩ rfl hl.1 (Nat.le_of_ble_eq_true rfl) ⟨by decide, by decide⟩ rfl dX9_blink_61 ?_
        refine lv_goto (pc := 64) (tgt := 89) hx hb dX9_blink_64 (by decide) ?_
        exact K2 _ _ _ _ hf hP hD hS hl
    · refine lv_iload_n (pc := 14) hx hb dX9_blink_14 rfl (lv_at hl 3 rfl) ?_
      refine lv_i2l (pc := 15) (v := (Int32.toInt64 p3)) hx hb dX9_blink_15 rfl ?_
      refine lv_aload_n (pc := 16) hx hb dX9_blink_16 rfl (lv_at hl 0 rfl) ?_
      refine va_get (pc := 17) (D := D) (ci := 9) (v := .ref mo_shut_A) (C := RX9) (T := TX9) (N := 25) hx hb hts inG9 hown hK hP 0 rfl rfl 6 (by decide) (hts _ tw_717) (fun _ h9 => h9) rfl dX9_blink_17 ?_
      refine lv_iload_n (pc := 20) hx hb dX9_blink_20 rfl (lv_at hl 1 rfl) ?_
      refine r_iald (pc := 21) hx hb hK hP 3 0 rfl rfl hf dX9_blink_21 (fun v7 hf => ?_)
      refine lv_iconst (pc := 22) (v := (1 : Int32)) hx hb dX9_blink_22 (by decide) ?_
      obtain ⟨k8, hk8, hf⟩ := lc1_e hf
      have K8 : ∀ (x10 : Int64) (H : Heap) (locs : List Loc) (ls : Array Slot), k8 x10 = some (r, r_mo_period, r_mo_shut, r_mo_phase) → va_P D vwCl (w_X9 cI cJ cZ cS mo_A mo_looks_A mo_period_A mo_shut_A mo_phase_A mo_quarters_A mo_tall_A mo_pairs_A mo_pad_A mo_cuts_A mo_at_A mo_first_A mo_kept_A mo_isKept_A mo_people mo_shots mo_looks mo_bride mo_hands mo_period mo_shut mo_phase mo_flash mo_quarters mo_tired mo_rows mo_columns mo_rise mo_tall mo_pairs mo_pad mo_padMany mo_cuts mo_at mo_first mo_kept mo_isKept mo_keptAt mo_isWriting) H → va_D A (w_X9 cI cJ cZ cS mo_A mo_looks_A mo_period_A mo_shut_A mo_phase_A mo_quarters_A mo_tall_A mo_pairs_A mo_pad_A mo_cuts_A mo_at_A mo_first_A mo_kept_A mo_isKept_A mo_people mo_shots mo_looks mo_bride mo_hands mo_period mo_shut mo_phase mo_flash mo_quarters mo_tired mo_rows mo_columns mo_rise mo_tall mo_pairs mo_pad mo_padMany mo_cuts mo_at mo_first mo_kept mo_isKept mo_keptAt mo_isWriting) → va_S A s.heap H locs → lv_has ls 6 [(0, .ref mo_A), (1, .int p1), (2, .int p2), (3, .int p3)] → W p l e (roR 2 46) s m args below meth c H locs 0 0 Q (F0 m 37 ls [.long x10, .long (Int32.toInt64 p3)]) := by
        intro x10 H locs ls hf hP hD hS hl
        rw [hk8] at hf
        refine lv_ldc2 (pc := 37) hx hb hown (hts _ tw_908) dX9_blink_37 ?_
        obtain ⟨v11, hv40, hf⟩ := bd_e hf
        refine ro_Si (pc := 40) (As := [.long (Int32.toInt64 p3), .long x10, .long (60 : Int64)]) (rest := []) E (c_X9_in l D cI cJ cZ cS (Int32.toInt64 p3) x10 (60 : Int64) v11 hv40) F_X9_in tw_793 tw_794  va_P_nil ⟨by decide, by decide⟩ rfl hl.1 (Nat.le_of_ble_eq_true rfl) ⟨by decide, by decide⟩ rfl dX9_blink_40 ?_
        refine lv_goto (pc := 43) (tgt := 89) hx hb dX9_blink_43 (by decide) ?_
        exact K2 _ _ _ _ hf hP hD hS hl
      refine r_ic_le (pc := 23) (tgt := 36) hx hb dX9_blink_23 (by decide) hf (fun hf => ?_) (fun hf => ?_)
      · refine lv_lconst (pc := 36) (v := (1 : Int64)) hx hb dX9_blink_36 (by decide) ?_
        exact K8 _ _ _ _ hf hP hD hS hl
      · refine lv_aload_n (pc := 26) hx hb dX9_blink_26 rfl (lv_at hl 0 rfl) ?_
        refine va_get (pc := 27) (D := D) (ci := 9) (v := .ref mo_shut_A) (C := RX9) (T := TX9) (N := 25) hx hb hts inG9 hown hK hP 0 rfl rfl 6 (by decide) (hts _ tw_717) (fun _ h9 => h9) rfl dX9_blink_27 ?_
        refine lv_iload_n (pc := 30) hx hb dX9_blink_30 rfl (lv_at hl 1 rfl) ?_
        refine r_iald (pc := 31) hx hb hK hP 3 0 rfl rfl hf dX9_blink_31 (fun v9 hf => ?_)
        refine lv_i2l (pc := 32) (v := (Int32.toInt64 v9)) hx hb dX9_blink_32 rfl ?_
        refine lv_goto (pc := 33) (tgt := 37) hx hb dX9_blink_33 (by decide) ?_
        exact K8 _ _ _ _ hf hP hD hS hl
  · refine lv_iconst (pc := 8) (v := (-1 : Int32)) hx hb dX9_blink_8 (by decide) ?_
    cases hf
    exact hQ _ _ _ _ _ dX9_blink_9 rfl hP hD hS
theorem F_X9_flash : CalF yX9_flash cX9_flash 3 (some .int) 1 := ⟨tw_913, tw_10, by decide +kernel⟩
set_option maxRecDepth 100000 in
set_option maxHeartbeats 4000000 in
theorem c_X9_flash (l : Launch) (D : va_G) (cI cJ cZ cS : ClassId) (mo_A mo_looks_A mo_period_A mo_shut_A mo_phase_A mo_quarters_A mo_tall_A mo_pairs_A mo_pad_A mo_cuts_A mo_at_A mo_first_A mo_kept_A mo_isKept_A : Nat) (mo_people : Int32) (mo_shots : Int32) (mo_looks : Nat → Int32) (mo_bride : Int32) (mo_hands : Int32) (mo_period : Nat → Int32) (mo_shut : Nat → Int32) (mo_phase : Nat → Int32) (mo_flash : Int32) (mo_quarters : Nat → Int32) (mo_tired : Int32) (mo_rows : Int32) (mo_columns : Int32) (mo_rise : Int32) (mo_tall : Nat → Int32) (mo_pairs : Nat → Int32) (mo_pad : Nat → Int32) (mo_padMany : Int32) (mo_cuts : Nat → Int32) (mo_at : Nat → Int32) (mo_first : Nat → Int32) (mo_kept : Nat → Int32) (mo_isKept : Nat → Int32) (mo_keptAt : Int32) (mo_isWriting : Int32) (p1 : Int32) (sz : Nat) (r : Int32) (r_mo_flash : Int32) (hf : f_X9_flash mo_flash p1 = some (r, r_mo_flash)) : RwC l D cI cJ cZ cS yX9_flash cX9_flash 3 (some .int) 1 25 (w_X9 cI cJ cZ cS mo_A mo_looks_A mo_period_A mo_shut_A mo_phase_A mo_quarters_A mo_tall_A mo_pairs_A mo_pad_A mo_cuts_A mo_at_A mo_first_A mo_kept_A mo_isKept_A mo_people mo_shots mo_looks mo_bride mo_hands mo_period mo_shut mo_phase mo_flash mo_quarters mo_tired mo_rows mo_columns mo_rise mo_tall mo_pairs mo_pad mo_padMany mo_cuts mo_at mo_first mo_kept mo_isKept mo_keptAt mo_isWriting) sz [.ref mo_A, .int p1] (some (.int r)) (w_X9 cI cJ cZ cS mo_A mo_looks_A mo_period_A mo_shut_A mo_phase_A mo_quarters_A mo_tall_A mo_pairs_A mo_pad_A mo_cuts_A mo_at_A mo_first_A mo_kept_A mo_isKept_A mo_people mo_shots mo_looks mo_bride mo_hands mo_period mo_shut mo_phase r_mo_flash mo_quarters mo_tired mo_rows mo_columns mo_rise mo_tall mo_pairs mo_pad mo_padMany mo_cuts mo_at mo_first mo_kept mo_isKept mo_keptAt mo_isWriting) := by
  refine rw_in_i (own := RX9) (by decide +kernel) rfl (Nat.le_of_ble_eq_true rfl) ?_
  intro p e s m args below meth c ls Q A E hA hQ hP hD hS hl
  obtain ⟨hx, hb, hml, hown, hts, hK, hN, hAO⟩ := id E
  have hl : lv_has ls 3 [(0, .ref mo_A), (1, .int p1)] := hl
  unfold f_X9_flash at hf
  obtain ⟨H, hH⟩ : ∃ H, H = s.heap := ⟨_, rfl⟩
  obtain ⟨locs, hlocs⟩ : ∃ L : List Loc, L = [] := ⟨_, rfl⟩
  rw [show W p l e (roR 1 25) s m args below meth c s.heap [] 0 0 Q (F0 m 0 ls []) = W p l e (roR 1 25) s m args below meth c H locs 0 0 Q (F0 m 0 ls []) by rw [hH, hlocs]]
  replace hS : va_S A s.heap H locs := by rw [hH, hlocs]; exact hS
  replace hP : va_P D vwCl (w_X9 cI cJ cZ cS mo_A mo_looks_A mo_period_A mo_shut_A mo_phase_A mo_quarters_A mo_tall_A mo_pairs_A mo_pad_A mo_cuts_A mo_at_A mo_first_A mo_kept_A mo_isKept_A mo_people mo_shots mo_looks mo_bride mo_hands mo_period mo_shut mo_phase mo_flash mo_quarters mo_tired mo_rows mo_columns mo_rise mo_tall mo_pairs mo_pad mo_padMany mo_cuts mo_at mo_first mo_kept mo_isKept mo_keptAt mo_isWriting) H := by rw [hH]; exact hP
  clear hH hlocs
  refine lv_iload_n (pc := 0) hx hb dX9_flash_0 rfl (lv_at hl 1 rfl) ?_
  refine lv_i2l (pc := 1) (v := (Int32.toInt64 p1)) hx hb dX9_flash_1 rfl ?_
  refine lv_ldc2 (pc := 2) hx hb hown (hts _ tw_914) dX9_flash_2 ?_
  refine lv_ldc2 (pc := 5) hx hb hown (hts _ tw_915) dX9_flash_5 ?_
  obtain ⟨v1, hv8, hf⟩ := bd_e hf
  refine ro_Si (pc := 8) (As := [.long (Int32.toInt64 p1), .long (-1 : Int64), .long (999 : Int64)]) (rest := []) E (c_X9_in l D cI cJ cZ cS (Int32.toInt64 p1) (-1 : Int64) (999 : Int64) v1 hv8) F_X9_in tw_793 tw_794  va_P_nil ⟨by decide, by decide⟩ rfl hl.1 (Nat.le_of_ble_eq_true rfl) ⟨by decide, by decide⟩ rfl dX9_flash_8 ?_
  refine r_if_ne (pc := 11) (tgt := 17) hx hb dX9_flash_11 (by decide) hf (fun hf => ?_) (fun hf => ?_)
  · refine lv_aload_n (pc := 17) hx hb dX9_flash_17 rfl (lv_at hl 0 rfl) ?_
    refine va_get (pc := 18) (D := D) (ci := 9) (v := .int mo_flash) (C := RX9) (T := TX9) (N := 25) hx hb hts inG9 hown hK hP 0 rfl rfl 8 (by decide) (hts _ tw_719) (fun _ h9 => h9) rfl dX9_flash_18 ?_
    refine lv_istore_n (pc := 21) (lv' := [(2, .int mo_flash), (0, .ref mo_A), (1, .int p1)]) hx hb dX9_flash_21 rfl hl (by decide) rfl (fun ls hl => ?_)
    refine lv_aload_n (pc := 22) hx hb dX9_flash_22 rfl (lv_at hl 1 rfl) ?_
    refine lv_iload_n (pc := 23) hx hb dX9_flash_23 rfl (lv_at hl 2 rfl) ?_
    refine va_put (pc := 24) (D := D) (ci := 9) (v := .int p1) (ty := .int) (C := RX9) (T := TX9) (N := 25) hx hb hts inG9 tyX9 tyX9_ok nmX9 hown hK hP hD hS 0 rfl rfl 8 (by decide) (hts _ tw_719) (fun _ h9 => h9) rfl (by decide +kernel) rfl rfl (Nat.le_of_ble_eq_true rfl) dX9_flash_24 (fun H locs hP hD hS => ?_)
    have hP : va_P D vwCl (w_X9 cI cJ cZ cS mo_A mo_looks_A mo_period_A mo_shut_A mo_phase_A mo_quarters_A mo_tall_A mo_pairs_A mo_pad_A mo_cuts_A mo_at_A mo_first_A mo_kept_A mo_isKept_A mo_people mo_shots mo_looks mo_bride mo_hands mo_period mo_shut mo_phase p1 mo_quarters mo_tired mo_rows mo_columns mo_rise mo_tall mo_pairs mo_pad mo_padMany mo_cuts mo_at mo_first mo_kept mo_isKept mo_keptAt mo_isWriting) H := hP
    have hD : va_D A (w_X9 cI cJ cZ cS mo_A mo_looks_A mo_period_A mo_shut_A mo_phase_A mo_quarters_A mo_tall_A mo_pairs_A mo_pad_A mo_cuts_A mo_at_A mo_first_A mo_kept_A mo_isKept_A mo_people mo_shots mo_looks mo_bride mo_hands mo_period mo_shut mo_phase p1 mo_quarters mo_tired mo_rows mo_columns mo_rise mo_tall mo_pairs mo_pad mo_padMany mo_cuts mo_at mo_first mo_kept mo_isKept mo_keptAt mo_isWriting) := hD
    refine lv_iload_n (pc := 27) hx hb dX9_flash_27 rfl (lv_at hl 0 rfl) ?_
    cases hf
    exact hQ _ _ _ _ _ dX9_flash_28 rfl hP hD hS
  · refine lv_bipush (pc := 14) (v := (-2 : Int32)) hx hb dX9_flash_14 (by decide) ?_
    cases hf
    exact hQ _ _ _ _ _ dX9_flash_16 rfl hP hD hS
