theorem F_X0_startPeople : CalF yX0_startPeople cX0_startPeople 2 none 0 := ⟨tw_74, tw_5, by decide +kernel⟩
set_option maxRecDepth 100000 in
set_option maxHeartbeats 4000000 in
theorem c_X0_startPeople (l : Launch) (D : va_G) (cI cJ cZ cS : ClassId) (N : Nat) (bl_A bl_settings_A : Nat) (bl_flash : Int32) (bl_settings : Nat → Int32) (sz : Nat) (r_bl_settings : Nat → Int32) (hf : f_X0_startPeople N bl_settings = some r_bl_settings) : RwC l D cI cJ cZ cS yX0_startPeople cX0_startPeople 2 none 0 0 (w_X0 cI cJ cZ cS bl_A bl_settings_A bl_flash bl_settings) sz [.ref bl_A] none (w_X0 cI cJ cZ cS bl_A bl_settings_A bl_flash r_bl_settings) := by
  refine rw_in_v (own := RX0) (by decide +kernel) rfl (Nat.le_of_ble_eq_true rfl) ?_
  intro p e s m args below meth c ls Q A E hA hQ hP hD hS hl
  obtain ⟨hx, hb, hml, hown, hts, hK, hN, hAO⟩ := id E
  have hl : lv_has ls 2 [(0, .ref bl_A)] := hl
  unfold f_X0_startPeople at hf
  obtain ⟨H, hH⟩ : ∃ H, H = s.heap := ⟨_, rfl⟩
  obtain ⟨locs, hlocs⟩ : ∃ L : List Loc, L = [] := ⟨_, rfl⟩
  rw [show W p l e (roR 0 0) s m args below meth c s.heap [] 0 0 Q (F0 m 0 ls []) = W p l e (roR 0 0) s m args below meth c H locs 0 0 Q (F0 m 0 ls []) by rw [hH, hlocs]]
  replace hS : va_S A s.heap H locs := by rw [hH, hlocs]; exact hS
  replace hP : va_P D vwCl (w_X0 cI cJ cZ cS bl_A bl_settings_A bl_flash bl_settings) H := by rw [hH]; exact hP
  clear hH hlocs
  refine lv_iconst (pc := 0) (v := (0 : Int32)) hx hb dX0_startPeople_0 (by decide) ?_
  refine lv_istore_n (pc := 1) (lv' := [(1, .int (0 : Int32)), (0, .ref bl_A)]) hx hb dX0_startPeople_1 rfl hl (by decide) rfl (fun ls hl => ?_)
  obtain ⟨k4, hk4, hf⟩ := lc1_e hf
  have K4 : ∀ (bl_settings_5 : Nat → Int32) (H : Heap) (locs : List Loc) (ls : Array Slot), k4 bl_settings_5 = some r_bl_settings → va_P D vwCl (w_X0 cI cJ cZ cS bl_A bl_settings_A bl_flash bl_settings_5) H → va_D A (w_X0 cI cJ cZ cS bl_A bl_settings_A bl_flash bl_settings_5) → va_S A s.heap H locs → lv_has ls 2 [] → W p l e (roR 0 0) s m args below meth c H locs 0 0 Q (F0 m 48 ls []) := by
    intro bl_settings_5 H locs ls hf hP hD hS hl
    rw [hk4] at hf
    cases hf
    exact hQ _ _ _ _ dX0_startPeople_48 hP hD hS
  have L2 : ∀ (n : Nat), ∀ (y1 : Int32) (bl_settings_2 : Nat → Int32) (H : Heap) (locs : List Loc) (ls : Array Slot), f_X0_startPeople_L2 k4 n y1 bl_settings_2 = some r_bl_settings → va_P D vwCl (w_X0 cI cJ cZ cS bl_A bl_settings_A bl_flash bl_settings_2) H → va_D A (w_X0 cI cJ cZ cS bl_A bl_settings_A bl_flash bl_settings_2) → va_S A s.heap H locs → lv_has ls 2 [(0, .ref bl_A), (1, .int y1)] → W p l e (roR 0 0) s m args below meth c H locs 0 0 Q (F0 m 2 ls []) := by
    intro n
    induction n with
    | zero =>
      intro y1 bl_settings_2 H locs ls hf
      rw [f_X0_startPeople_L2] at hf
      cases hf
    | succ n ih =>
      intro y1 bl_settings_2 H locs ls hf hP hD hS hl
      rw [f_X0_startPeople_L2] at hf
      refine lv_iload_n (pc := 2) hx hb dX0_startPeople_2 rfl (lv_at hl 1 rfl) ?_
      refine lv_bipush (pc := 3) (v := (8 : Int32)) hx hb dX0_startPeople_3 (by decide) ?_
      refine r_ic_ge (pc := 5) (tgt := 48) hx hb dX0_startPeople_5 (by decide) hf (fun hf => ?_) (fun hf => ?_)
      · exact K4 _ _ _ _ hf hP hD hS (lv_sub hl [] rfl)
      · refine lv_aload_n (pc := 8) hx hb dX0_startPeople_8 rfl (lv_at hl 0 rfl) ?_
        refine va_get (pc := 9) (D := D) (ci := 0) (v := .ref bl_settings_A) (C := RX0) (T := TX0) (N := 2) hx hb hts inG0 hown hK hP 0 rfl rfl 1 (by decide) (hts _ tw_77) (fun _ h9 => h9) rfl dX0_startPeople_9 ?_
        refine lv_iload_n (pc := 12) hx hb dX0_startPeople_12 rfl (lv_at hl 1 rfl) ?_
        refine lv_iconst (pc := 13) (v := (3 : Int32)) hx hb dX0_startPeople_13 (by decide) ?_
        refine lv_imul (pc := 14) hx hb dX0_startPeople_14 ?_
        refine lv_iconst (pc := 15) (v := (0 : Int32)) hx hb dX0_startPeople_15 (by decide) ?_
        refine lv_iadd (pc := 16) hx hb dX0_startPeople_16 ?_
        refine lv_bipush (pc := 17) (v := (30 : Int32)) hx hb dX0_startPeople_17 (by decide) ?_
        refine r_iast (pc := 19) hx hb hK hP hD hS 1 0 rfl rfl hf dX0_startPeople_19 (fun bl_settings_6 H locs hf hP hD hS => ?_)
        have hP : va_P D vwCl (w_X0 cI cJ cZ cS bl_A bl_settings_A bl_flash bl_settings_6) H := hP
        have hD : va_D A (w_X0 cI cJ cZ cS bl_A bl_settings_A bl_flash bl_settings_6) := hD
        refine lv_aload_n (pc := 20) hx hb dX0_startPeople_20 rfl (lv_at hl 0 rfl) ?_
        refine va_get (pc := 21) (D := D) (ci := 0) (v := .ref bl_settings_A) (C := RX0) (T := TX0) (N := 2) hx hb hts inG0 hown hK hP 0 rfl rfl 1 (by decide) (hts _ tw_77) (fun _ h9 => h9) rfl dX0_startPeople_21 ?_
        refine lv_iload_n (pc := 24) hx hb dX0_startPeople_24 rfl (lv_at hl 1 rfl) ?_
        refine lv_iconst (pc := 25) (v := (3 : Int32)) hx hb dX0_startPeople_25 (by decide) ?_
        refine lv_imul (pc := 26) hx hb dX0_startPeople_26 ?_
        refine lv_iconst (pc := 27) (v := (1 : Int32)) hx hb dX0_startPeople_27 (by decide) ?_
        refine lv_iadd (pc := 28) hx hb dX0_startPeople_28 ?_
        refine lv_iconst (pc := 29) (v := (2 : Int32)) hx hb dX0_startPeople_29 (by decide) ?_
        refine r_iast (pc := 30) hx hb hK hP hD hS 1 0 rfl rfl hf dX0_startPeople_30 (fun bl_settings_7 H locs hf hP hD hS => ?_)
        have hP : va_P D vwCl (w_X0 cI cJ cZ cS bl_A bl_settings_A bl_flash bl_settings_7) H := hP
        have hD : va_D A (w_X0 cI cJ cZ cS bl_A bl_settings_A bl_flash bl_settings_7) := hD
        refine lv_aload_n (pc := 31) hx hb dX0_startPeople_31 rfl (lv_at hl 0 rfl) ?_
        refine va_get (pc := 32) (D := D) (ci := 0) (v := .ref bl_settings_A) (C := RX0) (T := TX0) (N := 2) hx hb hts inG0 hown hK hP 0 rfl rfl 1 (by decide) (hts _ tw_77) (fun _ h9 => h9) rfl dX0_startPeople_32 ?_
        refine lv_iload_n (pc := 35) hx hb dX0_startPeople_35 rfl (lv_at hl 1 rfl) ?_
        refine lv_iconst (pc := 36) (v := (3 : Int32)) hx hb dX0_startPeople_36 (by decide) ?_
        refine lv_imul (pc := 37) hx hb dX0_startPeople_37 ?_
        refine lv_iconst (pc := 38) (v := (2 : Int32)) hx hb dX0_startPeople_38 (by decide) ?_
        refine lv_iadd (pc := 39) hx hb dX0_startPeople_39 ?_
        refine lv_iconst (pc := 40) (v := (0 : Int32)) hx hb dX0_startPeople_40 (by decide) ?_
        refine r_iast (pc := 41) hx hb hK hP hD hS 1 0 rfl rfl hf dX0_startPeople_41 (fun bl_settings_8 H locs hf hP hD hS => ?_)
        have hP : va_P D vwCl (w_X0 cI cJ cZ cS bl_A bl_settings_A bl_flash bl_settings_8) H := hP
        have hD : va_D A (w_X0 cI cJ cZ cS bl_A bl_settings_A bl_flash bl_settings_8) := hD
        refine lv_iinc (pc := 42) (v := (y1 + (1 : Int32))) (lv' := [(1, .int (y1 + (1 : Int32))), (0, .ref bl_A)]) hx hb dX0_startPeople_42 hl (k := 1) rfl (by rfl) (by decide) rfl (fun ls hl => ?_)
        refine lv_goto (pc := 45) (tgt := 2) hx hb dX0_startPeople_45 (by decide) ?_
        exact ih _ _ _ _ _ hf hP hD hS (lv_sub hl [1, 0] rfl)
  exact L2 N _ _ _ _ _ hf hP hD hS (lv_sub hl [1, 0] rfl)
theorem F_X0_copyFrom : CalF yX0_copyFrom cX0_copyFrom 2 none 1 := ⟨tw_673, tw_5, by decide +kernel⟩
set_option maxRecDepth 100000 in
set_option maxHeartbeats 4000000 in
theorem c_X0_copyFrom (l : Launch) (D : va_G) (cI cJ cZ cS : ClassId) (bl_A bl_settings_A bl2_A bl2_settings_A : Nat) (bl_flash : Int32) (bl_settings : Nat → Int32) (bl2_flash : Int32) (bl2_settings : Nat → Int32) (sz : Nat) (r_bl_flash : Int32) (r_bl_settings : Nat → Int32) (hf : f_X0_copyFrom bl_settings bl2_flash bl2_settings = some (r_bl_flash, r_bl_settings)) : RwC l D cI cJ cZ cS yX0_copyFrom cX0_copyFrom 2 none 1 64 (w_X0X0 cI cJ cZ cS bl_A bl_settings_A bl2_A bl2_settings_A bl_flash bl_settings bl2_flash bl2_settings) sz [.ref bl_A, .ref bl2_A] none (w_X0X0 cI cJ cZ cS bl_A bl_settings_A bl2_A bl2_settings_A r_bl_flash r_bl_settings bl2_flash bl2_settings) := by
  refine rw_in_v (own := RX0) (by decide +kernel) rfl (Nat.le_of_ble_eq_true rfl) ?_
  intro p e s m args below meth c ls Q A E hA hQ hP hD hS hl
  obtain ⟨hx, hb, hml, hown, hts, hK, hN, hAO⟩ := id E
  have hl : lv_has ls 2 [(0, .ref bl_A), (1, .ref bl2_A)] := hl
  unfold f_X0_copyFrom at hf
  obtain ⟨H, hH⟩ : ∃ H, H = s.heap := ⟨_, rfl⟩
  obtain ⟨locs, hlocs⟩ : ∃ L : List Loc, L = [] := ⟨_, rfl⟩
  rw [show W p l e (roR 1 64) s m args below meth c s.heap [] 0 0 Q (F0 m 0 ls []) = W p l e (roR 1 64) s m args below meth c H locs 0 0 Q (F0 m 0 ls []) by rw [hH, hlocs]]
  replace hS : va_S A s.heap H locs := by rw [hH, hlocs]; exact hS
  replace hP : va_P D vwCl (w_X0X0 cI cJ cZ cS bl_A bl_settings_A bl2_A bl2_settings_A bl_flash bl_settings bl2_flash bl2_settings) H := by rw [hH]; exact hP
  clear hH hlocs
  refine lv_aload_n (pc := 0) hx hb dX0_copyFrom_0 rfl (lv_at hl 0 rfl) ?_
  refine lv_aload_n (pc := 1) hx hb dX0_copyFrom_1 rfl (lv_at hl 1 rfl) ?_
  refine va_get (pc := 2) (D := D) (ci := 0) (v := .int bl2_flash) (C := RX0) (T := TX0) (N := 2) hx hb hts inG0 hown hK hP 2 rfl rfl 0 (by decide) (hts _ tw_75) (fun _ h9 => h9) rfl dX0_copyFrom_2 ?_
  refine va_put (pc := 5) (D := D) (ci := 0) (v := .int bl2_flash) (ty := .int) (C := RX0) (T := TX0) (N := 2) hx hb hts inG0 tyX0 tyX0_ok nmX0 hown hK hP hD hS 0 rfl rfl 0 (by decide) (hts _ tw_75) (fun _ h9 => h9) rfl (by decide +kernel) rfl rfl (Nat.le_of_ble_eq_true rfl) dX0_copyFrom_5 (fun H locs hP hD hS => ?_)
  have hP : va_P D vwCl (w_X0X0 cI cJ cZ cS bl_A bl_settings_A bl2_A bl2_settings_A bl2_flash bl_settings bl2_flash bl2_settings) H := hP
  have hD : va_D A (w_X0X0 cI cJ cZ cS bl_A bl_settings_A bl2_A bl2_settings_A bl2_flash bl_settings bl2_flash bl2_settings) := hD
  refine lv_aload_n (pc := 8) hx hb dX0_copyFrom_8 rfl (lv_at hl 1 rfl) ?_
  refine va_get (pc := 9) (D := D) (ci := 0) (v := .ref bl2_settings_A) (C := RX0) (T := TX0) (N := 2) hx hb hts inG0 hown hK hP 2 rfl rfl 1 (by decide) (hts _ tw_77) (fun _ h9 => h9) rfl dX0_copyFrom_9 ?_
  refine lv_iconst (pc := 12) (v := (0 : Int32)) hx hb dX0_copyFrom_12 (by decide) ?_
  refine lv_aload_n (pc := 13) hx hb dX0_copyFrom_13 rfl (lv_at hl 0 rfl) ?_
  refine va_get (pc := 14) (D := D) (ci := 0) (v := .ref bl_settings_A) (C := RX0) (T := TX0) (N := 2) hx hb hts inG0 hown hK hP 0 rfl rfl 1 (by decide) (hts _ tw_77) (fun _ h9 => h9) rfl dX0_copyFrom_14 ?_
  refine lv_iconst (pc := 17) (v := (0 : Int32)) hx hb dX0_copyFrom_17 (by decide) ?_
  refine lv_bipush (pc := 18) (v := (24 : Int32)) hx hb dX0_copyFrom_18 (by decide) ?_
  refine va_copyi (pc := 20) hx hb (E.2.2.1.trans hl.1.symm) hown (hts _ tw_674) (hts _ tw_669) (hts _ tw_668) (hts _ tw_13) hK hP hD hS 3 1 0 0 rfl rfl rfl rfl rfl (by decide) (by decide) (by decide) (by decide) (by decide) (fun _ _ => rfl) (by decide) (Nat.le_of_ble_eq_true rfl) dX0_copyFrom_20 (fun H locs hP hD hS => ?_)
  have hP : va_P D vwCl (w_X0X0 cI cJ cZ cS bl_A bl_settings_A bl2_A bl2_settings_A bl2_flash (va_cpy bl2_settings bl_settings 0 0 24) bl2_flash bl2_settings) H := hP
  have hD : va_D A (w_X0X0 cI cJ cZ cS bl_A bl_settings_A bl2_A bl2_settings_A bl2_flash (va_cpy bl2_settings bl_settings 0 0 24) bl2_flash bl2_settings) := hD
  cases hf
  exact hQ _ _ _ _ dX0_copyFrom_23 hP hD hS
theorem F_X0_settingOf : CalF yX0_settingOf cX0_settingOf 3 (some .int) 2 := ⟨tw_445, tw_5, by decide +kernel⟩
set_option maxRecDepth 100000 in
set_option maxHeartbeats 4000000 in
theorem c_X0_settingOf (l : Launch) (D : va_G) (cI cJ cZ cS : ClassId) (bl_A bl_settings_A : Nat) (bl_flash : Int32) (bl_settings : Nat → Int32) (p1 : Int32) (p2 : Int32) (r : Int32) (hf : f_X0_settingOf bl_settings p1 p2 = some r) : RoC l D cI cJ cZ cS yX0_settingOf cX0_settingOf 3 (some .int) 0 0 (w_X0 cI cJ cZ cS bl_A bl_settings_A bl_flash bl_settings) [.ref bl_A, .int p1, .int p2] (some (.int r)) := by
  refine ro_in_i (own := RX0) (by decide +kernel) rfl (Nat.le_of_ble_eq_true rfl) ?_
  intro p e s m args below meth c ls Q E hQ hP hl
  obtain ⟨hx, hb, hml, hown, hts, hK, hN, hAO⟩ := id E
  have hl : lv_has ls 3 [(0, .ref bl_A), (1, .int p1), (2, .int p2)] := hl
  unfold f_X0_settingOf at hf
  refine lv_aload_n (pc := 0) hx hb dX0_settingOf_0 rfl (lv_at hl 0 rfl) ?_
  refine va_get (pc := 1) (D := D) (ci := 0) (v := .ref bl_settings_A) (C := RX0) (T := TX0) (N := 2) hx hb hts inG0 hown hK hP 0 rfl rfl 1 (by decide) (hts _ tw_77) (fun _ h9 => h9) rfl dX0_settingOf_1 ?_
  refine lv_iload_n (pc := 4) hx hb dX0_settingOf_4 rfl (lv_at hl 1 rfl) ?_
  refine lv_iconst (pc := 5) (v := (3 : Int32)) hx hb dX0_settingOf_5 (by decide) ?_
  refine lv_imul (pc := 6) hx hb dX0_settingOf_6 ?_
  refine lv_iload_n (pc := 7) hx hb dX0_settingOf_7 rfl (lv_at hl 2 rfl) ?_
  refine lv_iadd (pc := 8) hx hb dX0_settingOf_8 ?_
  refine r_iald (pc := 9) hx hb hK hP 1 0 rfl rfl hf dX0_settingOf_9 (fun v1 hf => ?_)
  exact hQ _ _ _ dX0_settingOf_10 hf
theorem F_X0_fits : CalF yX0_fits cX0_fits 4 (some .boolean) 3 := ⟨tw_441, tw_5, by decide +kernel⟩
set_option maxRecDepth 100000 in
set_option maxHeartbeats 4000000 in
theorem c_X0_fits (l : Launch) (D : va_G) (cI cJ cZ cS : ClassId) (bl_A bl_settings_A : Nat) (bl_flash : Int32) (bl_settings : Nat → Int32) (p1 : Int32) (p2 : Int32) (p3 : Int32) (r : Int32) (hf : f_X0_fits bl_settings p1 p2 p3 = some r) : RoC l D cI cJ cZ cS yX0_fits cX0_fits 4 (some .boolean) 1 22 (w_X0 cI cJ cZ cS bl_A bl_settings_A bl_flash bl_settings) [.ref bl_A, .int p1, .int p2, .int p3] (some (.int r)) := by
  refine ro_in_z (own := RX0) (by decide +kernel) rfl (Nat.le_of_ble_eq_true rfl) ?_
  intro p e s m args below meth c ls Q E hQ hP hl
  obtain ⟨hx, hb, hml, hown, hts, hK, hN, hAO⟩ := id E
  have hl : lv_has ls 4 [(0, .ref bl_A), (1, .int p1), (2, .int p2), (3, .int p3)] := hl
  unfold f_X0_fits at hf
  refine lv_iload_n (pc := 0) hx hb dX0_fits_0 rfl (lv_at hl 2 rfl) ?_
  by_cases cs1_0 : p2 = (0 : Int32)
  · rw [if_pos cs1_0] at hf
    refine lv_tableIn (pc := 1) (off := 27) (tgt := 28) hx hb dX0_fits_1 (by rw [cs1_0]; decide) (by rw [cs1_0]; decide) (by rw [cs1_0]; decide) (by decide) ?_
    refine lv_iload_n (pc := 28) hx hb dX0_fits_28 rfl (lv_at hl 3 rfl) ?_
    refine lv_iconst (pc := 29) (v := (1 : Int32)) hx hb dX0_fits_29 (by decide) ?_
    refine lv_aload_n (pc := 30) hx hb dX0_fits_30 rfl (lv_at hl 0 rfl) ?_
    refine lv_iload_n (pc := 31) hx hb dX0_fits_31 rfl (lv_at hl 1 rfl) ?_
    refine lv_iconst (pc := 32) (v := (1 : Int32)) hx hb dX0_fits_32 (by decide) ?_
    obtain ⟨v1, hv33, hf⟩ := bd_e hf
    refine ro_Vi (pc := 33) (As := [.int p1, .int (1 : Int32)]) (rest := [.int (1 : Int32), .int p3]) E (c_X0_settingOf l D cI cJ cZ cS bl_A bl_settings_A bl_flash bl_settings p1 (1 : Int32) v1 hv33) F_X0_settingOf rfl rfl tw_442 tw_444 tp_9 hP ⟨by decide, by decide⟩ rfl hl.1 (Nat.le_of_ble_eq_true rfl) ⟨by decide, by decide⟩ rfl dX0_fits_33 ?_
    refine r_mmax (pc := 36) E hl.1 tw_446 tw_447 tw_11 tw_448 (by decide) (Nat.le_of_ble_eq_true rfl) (by decide) (by decide) dX0_fits_36 ?_
    refine lv_bipush (pc := 39) (v := (60 : Int32)) hx hb dX0_fits_39 (by decide) ?_
    obtain ⟨v2, hv41, hf⟩ := bd_e hf
    refine ro_SNi (pc := 41) (As := [.int p3, .int (imax (1 : Int32) v1), .int (60 : Int32)]) (rest := []) E (c_X8_within l D cI cJ cZ cS p3 (imax (1 : Int32) v1) (60 : Int32) v2 hv41) F_X8_within tn_23 tw_218  va_P_nil ⟨by decide, by decide⟩ rfl hl.1 (Nat.le_of_ble_eq_true rfl) ⟨by decide, by decide⟩ rfl dX0_fits_41 ?_
    exact hQ _ _ _ dX0_fits_44 (bz_e hf).2 (congrArg some (bz_e hf).1)
  rw [if_neg cs1_0] at hf
  by_cases cs1_1 : p2 = (1 : Int32)
  · rw [if_pos cs1_1] at hf
    refine lv_tableIn (pc := 1) (off := 44) (tgt := 45) hx hb dX0_fits_1 (by rw [cs1_1]; decide) (by rw [cs1_1]; decide) (by rw [cs1_1]; decide) (by decide) ?_
    refine lv_iload_n (pc := 45) hx hb dX0_fits_45 rfl (lv_at hl 3 rfl) ?_
    refine lv_iconst (pc := 46) (v := (0 : Int32)) hx hb dX0_fits_46 (by decide) ?_
    refine lv_aload_n (pc := 47) hx hb dX0_fits_47 rfl (lv_at hl 0 rfl) ?_
    refine lv_iload_n (pc := 48) hx hb dX0_fits_48 rfl (lv_at hl 1 rfl) ?_
    refine lv_iconst (pc := 49) (v := (0 : Int32)) hx hb dX0_fits_49 (by decide) ?_
    obtain ⟨v3, hv50, hf⟩ := bd_e hf
    refine ro_Vi (pc := 50) (As := [.int p1, .int (0 : Int32)]) (rest := [.int (0 : Int32), .int p3]) E (c_X0_settingOf l D cI cJ cZ cS bl_A bl_settings_A bl_flash bl_settings p1 (0 : Int32) v3 hv50) F_X0_settingOf rfl rfl tw_442 tw_444 tp_9 hP ⟨by decide, by decide⟩ rfl hl.1 (Nat.le_of_ble_eq_true rfl) ⟨by decide, by decide⟩ rfl dX0_fits_50 ?_
    obtain ⟨v4, hv53, hf⟩ := bd_e hf
    refine ro_SNi (pc := 53) (As := [.int p3, .int (0 : Int32), .int v3]) (rest := []) E (c_X8_within l D cI cJ cZ cS p3 (0 : Int32) v3 v4 hv53) F_X8_within tn_23 tw_218  va_P_nil ⟨by decide, by decide⟩ rfl hl.1 (Nat.le_of_ble_eq_true rfl) ⟨by decide, by decide⟩ rfl dX0_fits_53 ?_
    exact hQ _ _ _ dX0_fits_56 (bz_e hf).2 (congrArg some (bz_e hf).1)
  rw [if_neg cs1_1] at hf
  by_cases cs1_2 : p2 = (2 : Int32)
  · rw [if_pos cs1_2] at hf
    refine lv_tableIn (pc := 1) (off := 56) (tgt := 57) hx hb dX0_fits_1 (by rw [cs1_2]; decide) (by rw [cs1_2]; decide) (by rw [cs1_2]; decide) (by decide) ?_
    refine lv_iload_n (pc := 57) hx hb dX0_fits_57 rfl (lv_at hl 3 rfl) ?_
    refine lv_iconst (pc := 58) (v := (0 : Int32)) hx hb dX0_fits_58 (by decide) ?_
    refine lv_bipush (pc := 59) (v := (59 : Int32)) hx hb dX0_fits_59 (by decide) ?_
    obtain ⟨v5, hv61, hf⟩ := bd_e hf
    refine ro_SNi (pc := 61) (As := [.int p3, .int (0 : Int32), .int (59 : Int32)]) (rest := []) E (c_X8_within l D cI cJ cZ cS p3 (0 : Int32) (59 : Int32) v5 hv61) F_X8_within tn_23 tw_218  va_P_nil ⟨by decide, by decide⟩ rfl hl.1 (Nat.le_of_ble_eq_true rfl) ⟨by decide, by decide⟩ rfl dX0_fits_61 ?_
    exact hQ _ _ _ dX0_fits_64 (bz_e hf).2 (congrArg some (bz_e hf).1)
  rw [if_neg cs1_2] at hf
  refine lv_tableOut (pc := 1) (tgt := 65) hx hb dX0_fits_1 (tab_out3 cs1_0 cs1_1 cs1_2) (by decide) ?_
  refine lv_iconst (pc := 65) (v := (0 : Int32)) hx hb dX0_fits_65 (by decide) ?_
  exact hQ _ _ _ dX0_fits_66 rfl hf
theorem F_X0_change : CalF yX0_change cX0_change 5 (some .int) 3 := ⟨tw_453, tw_5, by decide +kernel⟩
set_option maxRecDepth 100000 in
set_option maxHeartbeats 4000000 in
theorem c_X0_change (l : Launch) (D : va_G) (cI cJ cZ cS : ClassId) (bl_A bl_settings_A : Nat) (bl_flash : Int32) (bl_settings : Nat → Int32) (p1 : Int32) (p2 : Int32) (p3 : Int32) (sz : Nat) (r : Int32) (r_bl_settings : Nat → Int32) (hf : f_X0_change bl_settings p1 p2 p3 = some (r, r_bl_settings)) : RwC l D cI cJ cZ cS yX0_change cX0_change 5 (some .int) 1 22 (w_X0 cI cJ cZ cS bl_A bl_settings_A bl_flash bl_settings) sz [.ref bl_A, .int p1, .int p2, .int p3] (some (.int r)) (w_X0 cI cJ cZ cS bl_A bl_settings_A bl_flash r_bl_settings) := by
  refine rw_in_i (own := RX0) (by decide +kernel) rfl (Nat.le_of_ble_eq_true rfl) ?_
  intro p e s m args below meth c ls Q A E hA hQ hP hD hS hl
  obtain ⟨hx, hb, hml, hown, hts, hK, hN, hAO⟩ := id E
  have hl : lv_has ls 5 [(0, .ref bl_A), (1, .int p1), (2, .int p2), (3, .int p3)] := hl
  unfold f_X0_change at hf
  obtain ⟨H, hH⟩ : ∃ H, H = s.heap := ⟨_, rfl⟩
  obtain ⟨locs, hlocs⟩ : ∃ L : List Loc, L = [] := ⟨_, rfl⟩
  rw [show W p l e (roR 1 22) s m args below meth c s.heap [] 0 0 Q (F0 m 0 ls []) = W p l e (roR 1 22) s m args below meth c H locs 0 0 Q (F0 m 0 ls []) by rw [hH, hlocs]]
  replace hS : va_S A s.heap H locs := by rw [hH, hlocs]; exact hS
  replace hP : va_P D vwCl (w_X0 cI cJ cZ cS bl_A bl_settings_A bl_flash bl_settings) H := by rw [hH]; exact hP
  clear hH hlocs
  refine lv_aload_n (pc := 0) hx hb dX0_change_0 rfl (lv_at hl 0 rfl) ?_
  refine lv_iload_n (pc := 1) hx hb dX0_change_1 rfl (lv_at hl 1 rfl) ?_
  refine lv_iload_n (pc := 2) hx hb dX0_change_2 rfl (lv_at hl 2 rfl) ?_
  obtain ⟨v1, hv3, hf⟩ := bd_e hf
  refine ro_Vi (pc := 3) (As := [.int p1, .int p2]) (rest := []) E (c_X0_settingOf l D cI cJ cZ cS bl_A bl_settings_A bl_flash bl_settings p1 p2 v1 hv3) F_X0_settingOf rfl rfl tw_442 tw_444 tp_9 hP ⟨by decide, by decide⟩ rfl hl.1 (Nat.le_of_ble_eq_true rfl) ⟨by decide, by decide⟩ rfl dX0_change_3 ?_
  refine lv_istore (pc := 6) (lv' := [(4, .int v1), (0, .ref bl_A), (1, .int p1), (2, .int p2), (3, .int p3)]) hx hb dX0_change_6 hl (by decide) rfl (fun ls hl => ?_)
  refine lv_aload_n (pc := 8) hx hb dX0_change_8 rfl (lv_at hl 1 rfl) ?_
  refine va_get (pc := 9) (D := D) (ci := 0) (v := .ref bl_settings_A) (C := RX0) (T := TX0) (N := 2) hx hb hts inG0 hown hK hP 0 rfl rfl 1 (by decide) (hts _ tw_77) (fun _ h9 => h9) rfl dX0_change_9 ?_
  refine lv_iload_n (pc := 12) hx hb dX0_change_12 rfl (lv_at hl 2 rfl) ?_
  refine lv_iconst (pc := 13) (v := (3 : Int32)) hx hb dX0_change_13 (by decide) ?_
  refine lv_imul (pc := 14) hx hb dX0_change_14 ?_
  refine lv_iload_n (pc := 15) hx hb dX0_change_15 rfl (lv_at hl 3 rfl) ?_
  refine lv_iadd (pc := 16) hx hb dX0_change_16 ?_
  refine lv_iload_n (pc := 17) hx hb dX0_change_17 rfl (lv_at hl 4 rfl) ?_
  refine r_iast (pc := 18) hx hb hK hP hD hS 1 0 rfl rfl hf dX0_change_18 (fun bl_settings_2 H locs hf hP hD hS => ?_)
  have hP : va_P D vwCl (w_X0 cI cJ cZ cS bl_A bl_settings_A bl_flash bl_settings_2) H := hP
  have hD : va_D A (w_X0 cI cJ cZ cS bl_A bl_settings_A bl_flash bl_settings_2) := hD
  refine lv_iload (pc := 19) hx hb dX0_change_19 (lv_at hl 0 rfl) ?_
  cases hf
  exact hQ _ _ _ _ _ dX0_change_21 rfl hP hD hS
theorem F_X0_isFlashed : CalF yX0_isFlashed cX0_isFlashed 2 (some .boolean) 1 := ⟨tw_469, tw_5, by decide +kernel⟩
set_option maxRecDepth 100000 in
set_option maxHeartbeats 4000000 in
theorem c_X0_isFlashed (l : Launch) (D : va_G) (cI cJ cZ cS : ClassId) (bl_A bl_settings_A : Nat) (bl_flash : Int32) (bl_settings : Nat → Int32) (p1 : Int32) (r : Int32) (hf : f_X0_isFlashed bl_flash p1 = some r) : RoC l D cI cJ cZ cS yX0_isFlashed cX0_isFlashed 2 (some .boolean) 0 0 (w_X0 cI cJ cZ cS bl_A bl_settings_A bl_flash bl_settings) [.ref bl_A, .int p1] (some (.int r)) := by
  refine ro_in_z (own := RX0) (by decide +kernel) rfl (Nat.le_of_ble_eq_true rfl) ?_
  intro p e s m args below meth c ls Q E hQ hP hl
  obtain ⟨hx, hb, hml, hown, hts, hK, hN, hAO⟩ := id E
  have hl : lv_has ls 2 [(0, .ref bl_A), (1, .int p1)] := hl
  unfold f_X0_isFlashed at hf
  refine lv_aload_n (pc := 0) hx hb dX0_isFlashed_0 rfl (lv_at hl 0 rfl) ?_
  refine va_get (pc := 1) (D := D) (ci := 0) (v := .int bl_flash) (C := RX0) (T := TX0) (N := 2) hx hb hts inG0 hown hK hP 0 rfl rfl 0 (by decide) (hts _ tw_75) (fun _ h9 => h9) rfl dX0_isFlashed_1 ?_
  refine r_if_lt (pc := 4) (tgt := 31) hx hb dX0_isFlashed_4 (by decide) hf (fun hf => ?_) (fun hf => ?_)
  · refine lv_iconst (pc := 31) (v := (0 : Int32)) hx hb dX0_isFlashed_31 (by decide) ?_
    exact hQ _ _ _ dX0_isFlashed_32 rfl hf
  · refine lv_iload_n (pc := 7) hx hb dX0_isFlashed_7 rfl (lv_at hl 1 rfl) ?_
    refine lv_aload_n (pc := 8) hx hb dX0_isFlashed_8 rfl (lv_at hl 0 rfl) ?_
    refine va_get (pc := 9) (D := D) (ci := 0) (v := .int bl_flash) (C := RX0) (T := TX0) (N := 2) hx hb hts inG0 hown hK hP 0 rfl rfl 0 (by decide) (hts _ tw_75) (fun _ h9 => h9) rfl dX0_isFlashed_9 ?_
    refine lv_iconst (pc := 12) (v := (1 : Int32)) hx hb dX0_isFlashed_12 (by decide) ?_
    refine lv_iadd (pc := 13) hx hb dX0_isFlashed_13 ?_
    refine r_ic_eq (pc := 14) (tgt := 27) hx hb dX0_isFlashed_14 (by decide) hf (fun hf => ?_) (fun hf => ?_)
    · refine lv_iconst (pc := 27) (v := (1 : Int32)) hx hb dX0_isFlashed_27 (by decide) ?_
      refine lv_goto (pc := 28) (tgt := 32) hx hb dX0_isFlashed_28 (by decide) ?_
      exact hQ _ _ _ dX0_isFlashed_32 rfl hf
    · refine lv_iload_n (pc := 17) hx hb dX0_isFlashed_17 rfl (lv_at hl 1 rfl) ?_
      refine lv_aload_n (pc := 18) hx hb dX0_isFlashed_18 rfl (lv_at hl 0 rfl) ?_
      refine va_get (pc := 19) (D := D) (ci := 0) (v := .int bl_flash) (C := RX0) (T := TX0) (N := 2) hx hb hts inG0 hown hK hP 0 rfl rfl 0 (by decide) (hts _ tw_75) (fun _ h9 => h9) rfl dX0_isFlashed_19 ?_
      refine lv_iconst (pc := 22) (v := (2 : Int32)) hx hb dX0_isFlashed_22 (by decide) ?_
      refine lv_iadd (pc := 23) hx hb dX0_isFlashed_23 ?_
      refine r_ic_ne (pc := 24) (tgt := 31) hx hb dX0_isFlashed_24 (by decide) hf (fun hf => ?_) (fun hf => ?_)
      · refine lv_iconst (pc := 31) (v := (0 : Int32)) hx hb dX0_isFlashed_31 (by decide) ?_
        exact hQ _ _ _ dX0_isFlashed_32 rfl hf
      · refine lv_iconst (pc := 27) (v := (1 : Int32)) hx hb dX0_isFlashed_27 (by decide) ?_
        refine lv_goto (pc := 28) (tgt := 32) hx hb dX0_isFlashed_28 (by decide) ?_
        exact hQ _ _ _ dX0_isFlashed_32 rfl hf
theorem F_X0_isShut : CalF yX0_isShut cX0_isShut 4 (some .boolean) 2 := ⟨tw_473, tw_5, by decide +kernel⟩
set_option maxRecDepth 100000 in
set_option maxHeartbeats 4000000 in
theorem c_X0_isShut (l : Launch) (D : va_G) (cI cJ cZ cS : ClassId) (bl_A bl_settings_A : Nat) (bl_flash : Int32) (bl_settings : Nat → Int32) (p1 : Int32) (p2 : Int32) (r : Int32) (hf : f_X0_isShut bl_settings p1 p2 = some r) : RoC l D cI cJ cZ cS yX0_isShut cX0_isShut 4 (some .boolean) 1 22 (w_X0 cI cJ cZ cS bl_A bl_settings_A bl_flash bl_settings) [.ref bl_A, .int p1, .int p2] (some (.int r)) := by
  refine ro_in_z (own := RX0) (by decide +kernel) rfl (Nat.le_of_ble_eq_true rfl) ?_
  intro p e s m args below meth c ls Q E hQ hP hl
  obtain ⟨hx, hb, hml, hown, hts, hK, hN, hAO⟩ := id E
  have hl : lv_has ls 4 [(0, .ref bl_A), (1, .int p1), (2, .int p2)] := hl
  unfold f_X0_isShut at hf
  refine lv_aload_n (pc := 0) hx hb dX0_isShut_0 rfl (lv_at hl 0 rfl) ?_
  refine lv_iload_n (pc := 1) hx hb dX0_isShut_1 rfl (lv_at hl 1 rfl) ?_
  refine lv_iconst (pc := 2) (v := (0 : Int32)) hx hb dX0_isShut_2 (by decide) ?_
  obtain ⟨v1, hv3, hf⟩ := bd_e hf
  refine ro_Vi (pc := 3) (As := [.int p1, .int (0 : Int32)]) (rest := []) E (c_X0_settingOf l D cI cJ cZ cS bl_A bl_settings_A bl_flash bl_settings p1 (0 : Int32) v1 hv3) F_X0_settingOf rfl rfl tw_442 tw_444 tp_9 hP ⟨by decide, by decide⟩ rfl hl.1 (Nat.le_of_ble_eq_true rfl) ⟨by decide, by decide⟩ rfl dX0_isShut_3 ?_
  refine lv_istore_n (pc := 6) (lv' := [(3, .int v1), (0, .ref bl_A), (1, .int p1), (2, .int p2)]) hx hb dX0_isShut_6 rfl hl (by decide) rfl (fun ls hl => ?_)
  refine lv_iload_n (pc := 7) hx hb dX0_isShut_7 rfl (lv_at hl 0 rfl) ?_
  refine lv_iconst (pc := 8) (v := (1 : Int32)) hx hb dX0_isShut_8 (by decide) ?_
  refine r_ic_ge (pc := 9) (tgt := 14) hx hb dX0_isShut_9 (by decide) hf (fun hf => ?_) (fun hf => ?_)
  · refine lv_iload_n (pc := 14) hx hb dX0_isShut_14 rfl (lv_at hl 3 rfl) ?_
    refine lv_aload_n (pc := 15) hx hb dX0_isShut_15 rfl (lv_at hl 1 rfl) ?_
    refine lv_iload_n (pc := 16) hx hb dX0_isShut_16 rfl (lv_at hl 2 rfl) ?_
    refine lv_iconst (pc := 17) (v := (2 : Int32)) hx hb dX0_isShut_17 (by decide) ?_
    obtain ⟨v2, hv18, hf⟩ := bd_e hf
    refine ro_Vi (pc := 18) (As := [.int p1, .int (2 : Int32)]) (rest := [.int p2]) E (c_X0_settingOf l D cI cJ cZ cS bl_A bl_settings_A bl_flash bl_settings p1 (2 : Int32) v2 hv18) F_X0_settingOf rfl rfl tw_442 tw_444 tp_9 hP ⟨by decide, by decide⟩ rfl hl.1 (Nat.le_of_ble_eq_true rfl) ⟨by decide, by decide⟩ rfl dX0_isShut_18 ?_
    refine lv_iadd (pc := 21) hx hb dX0_isShut_21 ?_
    refine lv_iload_n (pc := 22) hx hb dX0_isShut_22 rfl (lv_at hl 0 rfl) ?_
    refine r_irem (pc := 23) hx hb hf dX0_isShut_23 (fun v3 hf => ?_)
    refine lv_aload_n (pc := 24) hx hb dX0_isShut_24 rfl (lv_at hl 1 rfl) ?_
    refine lv_iload_n (pc := 25) hx hb dX0_isShut_25 rfl (lv_at hl 2 rfl) ?_
    refine lv_iconst (pc := 26) (v := (1 : Int32)) hx hb dX0_isShut_26 (by decide) ?_
    obtain ⟨v4, hv27, hf⟩ := bd_e hf
    refine ro_Vi (pc := 27) (As := [.int p1, .int (1 : Int32)]) (rest := [.int v3]) E (c_X0_settingOf l D cI cJ cZ cS bl_A bl_settings_A bl_flash bl_settings p1 (1 : Int32) v4 hv27) F_X0_settingOf rfl rfl tw_442 tw_444 tp_9 hP ⟨by decide, by decide⟩ rfl hl.1 (Nat.le_of_ble_eq_true rfl) ⟨by decide, by decide⟩ rfl dX0_isShut_27 ?_
    refine r_ic_ge (pc := 30) (tgt := 37) hx hb dX0_isShut_30 (by decide) hf (fun hf => ?_) (fun hf => ?_)
    · refine lv_iconst (pc := 37) (v := (0 : Int32)) hx hb dX0_isShut_37 (by decide) ?_
      exact hQ _ _ _ dX0_isShut_38 rfl hf
    · refine lv_iconst (pc := 33) (v := (1 : Int32)) hx hb dX0_isShut_33 (by decide) ?_
      refine lv_goto (pc := 34) (tgt := 38) hx hb dX0_isShut_34 (by decide) ?_
      exact hQ _ _ _ dX0_isShut_38 rfl hf
  · refine lv_iconst (pc := 12) (v := (0 : Int32)) hx hb dX0_isShut_12 (by decide) ?_
    exact hQ _ _ _ dX0_isShut_13 rfl hf
theorem F_X0_openAt : CalF yX0_openAt cX0_openAt 5 (some .int) 2 := ⟨tw_465, tw_5, by decide +kernel⟩
set_option maxRecDepth 100000 in
set_option maxHeartbeats 4000000 in
theorem c_X0_openAt (l : Launch) (D : va_G) (cI cJ cZ cS : ClassId) (N : Nat) (bl_A bl_settings_A : Nat) (bl_flash : Int32) (bl_settings : Nat → Int32) (p1 : Int32) (p2 : Int32) (r : Int32) (hf : f_X0_openAt N bl_flash bl_settings p1 p2 = some r) : RoC l D cI cJ cZ cS yX0_openAt cX0_openAt 5 (some .int) 2 45 (w_X0 cI cJ cZ cS bl_A bl_settings_A bl_flash bl_settings) [.ref bl_A, .int p1, .int p2] (some (.int r)) := by
  refine ro_in_i (own := RX0) (by decide +kernel) rfl (Nat.le_of_ble_eq_true rfl) ?_
  intro p e s m args below meth c ls Q E hQ hP hl
  obtain ⟨hx, hb, hml, hown, hts, hK, hN, hAO⟩ := id E
  have hl : lv_has ls 5 [(0, .ref bl_A), (1, .int p1), (2, .int p2)] := hl
  unfold f_X0_openAt at hf
  refine lv_aload_n (pc := 0) hx hb dX0_openAt_0 rfl (lv_at hl 0 rfl) ?_
  refine lv_iload_n (pc := 1) hx hb dX0_openAt_1 rfl (lv_at hl 1 rfl) ?_
  obtain ⟨v1, hv2, hf⟩ := bd_e hf
  refine ro_Vi (pc := 2) (As := [.int p1]) (rest := []) E (c_X0_isFlashed l D cI cJ cZ cS bl_A bl_settings_A bl_flash bl_settings p1 v1 hv2) F_X0_isFlashed rfl rfl tw_466 tw_468 tp_10 hP ⟨by decide, by decide⟩ rfl hl.1 (Nat.le_of_ble_eq_true rfl) ⟨by decide, by decide⟩ rfl dX0_openAt_2 ?_
  refine r_if_eq (pc := 5) (tgt := 10) hx hb dX0_openAt_5 (by decide) hf (fun hf => ?_) (fun hf => ?_)
  · refine lv_iconst (pc := 10) (v := (0 : Int32)) hx hb dX0_openAt_10 (by decide) ?_
    refine lv_istore_n (pc := 11) (lv' := [(3, .int (0 : Int32)), (0, .ref bl_A), (1, .int p1), (2, .int p2)]) hx hb dX0_openAt_11 rfl hl (by decide) rfl (fun ls hl => ?_)
    refine lv_iconst (pc := 12) (v := (0 : Int32)) hx hb dX0_openAt_12 (by decide) ?_
    refine lv_istore (pc := 13) (lv' := [(4, .int (0 : Int32)), (3, .int (0 : Int32)), (0, .ref bl_A), (1, .int p1), (2, .int p2)]) hx hb dX0_openAt_13 hl (by decide) rfl (fun ls hl => ?_)
    obtain ⟨k5, hk5, hf⟩ := lc1_e hf
    have K5 : ∀ (z6 : Int32) (ls : Array Slot), k5 z6 = some r → lv_has ls 5 [(3, .int z6)] → W p l e (roR 2 45) s m args below meth c s.heap [] 0 0 Q (F0 m 44 ls []) := by
      intro z6 ls hf hl
      rw [hk5] at hf
      refine lv_iload_n (pc := 44) hx hb dX0_openAt_44 rfl (lv_at hl 0 rfl) ?_
      exact hQ _ _ _ dX0_openAt_45 hf
    have L15 : ∀ (n : Nat), ∀ (y2 : Int32) (y3 : Int32) (ls : Array Slot), f_X0_openAt_L15 bl_settings p1 p2 k5 n y2 y3 = some r → lv_has ls 5 [(0, .ref bl_A), (1, .int p1), (2, .int p2), (3, .int y2), (4, .int y3)] → W p l e (roR 2 45) s m args below meth c s.heap [] 0 0 Q (F0 m 15 ls []) := by
      intro n
      induction n with
      | zero =>
        intro y2 y3 ls hf
        rw [f_X0_openAt_L15] at hf
        cases hf
      | succ n ih =>
        intro y2 y3 ls hf hl
        rw [f_X0_openAt_L15] at hf
        refine lv_iload (pc := 15) hx hb dX0_openAt_15 (lv_at hl 4 rfl) ?_
        refine lv_iload_n (pc := 17) hx hb dX0_openAt_17 rfl (lv_at hl 2 rfl) ?_
        refine r_ic_ge (pc := 18) (tgt := 44) hx hb dX0_openAt_18 (by decide) hf (fun hf => ?_) (fun hf => ?_)
        · exact K5 _ _ hf (lv_sub hl [3] rfl)
        · refine lv_aload_n (pc := 21) hx hb dX0_openAt_21 rfl (lv_at hl 0 rfl) ?_
          refine lv_iload (pc := 22) hx hb dX0_openAt_22 (lv_at hl 4 rfl) ?_
          refine lv_iload_n (pc := 24) hx hb dX0_openAt_24 rfl (lv_at hl 1 rfl) ?_
          obtain ⟨v7, hv25, hf⟩ := bd_e hf
          refine ro_Vi (pc := 25) (As := [.int y3, .int p1]) (rest := []) E (c_X0_isShut l D cI cJ cZ cS bl_A bl_settings_A bl_flash bl_settings y3 p1 v7 hv25) F_X0_isShut rfl rfl tw_470 tw_472 tp_11 hP ⟨by decide, by decide⟩ rfl hl.1 (Nat.le_of_ble_eq_true rfl) ⟨by decide, by decide⟩ rfl dX0_openAt_25 ?_
          obtain ⟨k8, hk8, hf⟩ := lc1_e hf
          have K8 : ∀ (x9 : Int32) (ls : Array Slot), k8 x9 = some r → lv_has ls 5 [(0, .ref bl_A), (1, .int p1), (2, .int p2), (3, .int x9), (4, .int y3)] → W p l e (roR 2 45) s m args below meth c s.heap [] 0 0 Q (F0 m 38 ls []) := by
            intro x9 ls hf hl
            rw [hk8] at hf
            refine lv_iinc (pc := 38) (v := (y3 + (1 : Int32))) (lv' := [(4, .int (y3 + (1 : Int32))), (0, .ref bl_A), (1, .int p1), (2, .int p2), (3, .int x9)]) hx hb dX0_openAt_38 hl (k := 4) rfl (by rfl) (by decide) rfl (fun ls hl => ?_)
            refine lv_goto (pc := 41) (tgt := 15) hx hb dX0_openAt_41 (by decide) ?_
            exact ih _ _ _ hf (lv_sub hl [1, 2, 3, 4, 0] rfl)
          refine r_if_ne (pc := 28) (tgt := 38) hx hb dX0_openAt_28 (by decide) hf (fun hf => ?_) (fun hf => ?_)
          · exact K8 _ _ hf hl
          · refine lv_iload_n (pc := 31) hx hb dX0_openAt_31 rfl (lv_at hl 3 rfl) ?_
            refine lv_iconst (pc := 32) (v := (1 : Int32)) hx hb dX0_openAt_32 (by decide) ?_
            refine lv_iload (pc := 33) hx hb dX0_openAt_33 (lv_at hl 4 rfl) ?_
            refine lv_ishl (pc := 35) hx hb dX0_openAt_35 ?_
            refine lv_ior (pc := 36) hx hb dX0_openAt_36 ?_
            refine lv_istore_n (pc := 37) (lv' := [(3, .int (y2 ||| ((1 : Int32) <<< (y3 &&& 31)))), (0, .ref bl_A), (1, .int p1), (2, .int p2), (4, .int y3)]) hx hb dX0_openAt_37 rfl hl (by decide) rfl (fun ls hl => ?_)
            exact K8 _ _ hf (lv_sub hl [1, 2, 3, 0, 4] rfl)
    exact L15 N _ _ _ hf (lv_sub hl [2, 3, 4, 1, 0] rfl)
  · refine lv_iconst (pc := 8) (v := (0 : Int32)) hx hb dX0_openAt_8 (by decide) ?_
    exact hQ _ _ _ dX0_openAt_9 hf
theorem F_X0_bestTenth : CalF yX0_bestTenth cX0_bestTenth 8 (some .int) 3 := ⟨tw_486, tw_5, by decide +kernel⟩
set_option maxRecDepth 100000 in
set_option maxHeartbeats 4000000 in
theorem c_X0_bestTenth (l : Launch) (D : va_G) (cI cJ cZ cS : ClassId) (N : Nat) (bl_A bl_settings_A : Nat) (bl_flash : Int32) (bl_settings : Nat → Int32) (p1 : Int32) (p2 : Int32) (p3 : Int32) (r : Int32) (hf : f_X0_bestTenth N bl_flash bl_settings p1 p2 p3 = some r) : RoC l D cI cJ cZ cS yX0_bestTenth cX0_bestTenth 8 (some .int) 3 69 (w_X0 cI cJ cZ cS bl_A bl_settings_A bl_flash bl_settings) [.ref bl_A, .int p1, .int p2, .int p3] (some (.int r)) := by
  refine ro_in_i (own := RX0) (by decide +kernel) rfl (Nat.le_of_ble_eq_true rfl) ?_
  intro p e s m args below meth c ls Q E hQ hP hl
  obtain ⟨hx, hb, hml, hown, hts, hK, hN, hAO⟩ := id E
  have hl : lv_has ls 8 [(0, .ref bl_A), (1, .int p1), (2, .int p2), (3, .int p3)] := hl
  unfold f_X0_bestTenth at hf
  refine lv_iload_n (pc := 0) hx hb dX0_bestTenth_0 rfl (lv_at hl 1 rfl) ?_
  refine lv_istore (pc := 1) (lv' := [(4, .int p1), (0, .ref bl_A), (1, .int p1), (2, .int p2), (3, .int p3)]) hx hb dX0_bestTenth_1 hl (by decide) rfl (fun ls hl => ?_)
  refine lv_iconst (pc := 3) (v := (-1 : Int32)) hx hb dX0_bestTenth_3 (by decide) ?_
  refine lv_istore (pc := 4) (lv' := [(5, .int (-1 : Int32)), (4, .int p1), (0, .ref bl_A), (1, .int p1), (2, .int p2), (3, .int p3)]) hx hb dX0_bestTenth_4 hl (by decide) rfl (fun ls hl => ?_)
  refine lv_iload_n (pc := 6) hx hb dX0_bestTenth_6 rfl (lv_at hl 3 rfl) ?_
  refine lv_istore (pc := 7) (lv' := [(6, .int p1), (5, .int (-1 : Int32)), (4, .int p1), (0, .ref bl_A), (1, .int p1), (2, .int p2), (3, .int p3)]) hx hb dX0_bestTenth_7 hl (by decide) rfl (fun ls hl => ?_)
  obtain ⟨k5, hk5, hf⟩ := lc1_e hf
  have K5 : ∀ (z6 : Int32) (ls : Array Slot), k5 z6 = some r → lv_has ls 8 [(4, .int z6)] → W p l e (roR 3 69) s m args below meth c s.heap [] 0 0 Q (F0 m 54 ls []) := by
    intro z6 ls hf hl
    rw [hk5] at hf
    refine lv_iload (pc := 54) hx hb dX0_bestTenth_54 (lv_at hl 0 rfl) ?_
    exact hQ _ _ _ dX0_bestTenth_56 hf
  have L9 : ∀ (n : Nat), ∀ (y1 : Int32) (y2 : Int32) (y3 : Int32) (ls : Array Slot), f_X0_bestTenth_L9 bl_flash bl_settings p2 p3 N k5 n y1 y2 y3 = some r → lv_has ls 8 [(0, .ref bl_A), (2, .int p2), (3, .int p3), (4, .int y1), (5, .int y2), (6, .int y3)] → W p l e (roR 3 69) s m args below meth c s.heap [] 0 0 Q (F0 m 9 ls []) := by
    intro n
    induction n with
    | zero =>
      intro y1 y2 y3 ls hf
      rw [f_X0_bestTenth_L9] at hf
      cases hf
    | succ n ih =>
      intro y1 y2 y3 ls hf hl
      rw [f_X0_bestTenth_L9] at hf
      refine lv_iload (pc := 9) hx hb dX0_bestTenth_9 (lv_at hl 5 rfl) ?_
      refine lv_iload_n (pc := 11) hx hb dX0_bestTenth_11 rfl (lv_at hl 1 rfl) ?_
      refine r_ic_gt (pc := 12) (tgt := 54) hx hb dX0_bestTenth_12 (by decide) hf (fun hf => ?_) (fun hf => ?_)
      · exact K5 _ _ hf (lv_sub hl [3] rfl)
      · refine lv_iload (pc := 15) hx hb dX0_bestTenth_15 (lv_at hl 4 rfl) ?_
        refine lv_iload_n (pc := 17) hx hb dX0_bestTenth_17 rfl (lv_at hl 2 rfl) ?_
        refine r_ic_ge (pc := 18) (tgt := 54) hx hb dX0_bestTenth_18 (by decide) hf (fun hf => ?_) (fun hf => ?_)
        · exact K5 _ _ hf (lv_sub hl [3] rfl)
        · refine lv_aload_n (pc := 21) hx hb dX0_bestTenth_21 rfl (lv_at hl 0 rfl) ?_
          refine lv_iload (pc := 22) hx hb dX0_bestTenth_22 (lv_at hl 5 rfl) ?_
          refine lv_iload_n (pc := 24) hx hb dX0_bestTenth_24 rfl (lv_at hl 2 rfl) ?_
          obtain ⟨v7, hv25, hf⟩ := bd_e hf
          refine ro_Vi (pc := 25) (As := [.int y3, .int p3]) (rest := []) E (c_X0_openAt l D cI cJ cZ cS N bl_A bl_settings_A bl_flash bl_settings y3 p3 v7 hv25) F_X0_openAt rfl rfl tw_482 tw_463 tw_464 hP ⟨by decide, by decide⟩ rfl hl.1 (Nat.le_of_ble_eq_true rfl) ⟨by decide, by decide⟩ rfl dX0_bestTenth_25 ?_
          obtain ⟨v8, hv28, hf⟩ := bd_e hf
          refine ro_Si (pc := 28) (As := [.int v7]) (rest := []) E (c_J6_bitCount_0f7a4 l D cI cJ cZ cS v7 v8 hv28) F_J6_bitCount_0f7a4 tw_487 tw_338  va_P_nil ⟨by decide, by decide⟩ rfl hl.1 (Nat.le_of_ble_eq_true rfl) ⟨by decide, by decide⟩ rfl dX0_bestTenth_28 ?_
          refine lv_istore (pc := 31) (lv' := [(7, .int v8), (0, .ref bl_A), (2, .int p2), (3, .int p3), (4, .int y1), (5, .int y2), (6, .int y3)]) hx hb dX0_bestTenth_31 hl (by decide) rfl (fun ls hl => ?_)
          refine lv_iload (pc := 33) hx hb dX0_bestTenth_33 (lv_at hl 0 rfl) ?_
          refine lv_iload (pc := 35) hx hb dX0_bestTenth_35 (lv_at hl 5 rfl) ?_
          obtain ⟨k9, hk9, hf⟩ := lc2_e hf
          have K9 : ∀ (x10 : Int32) (x11 : Int32) (ls : Array Slot), k9 x10 x11 = some r → lv_has ls 8 [(0, .ref bl_A), (2, .int p2), (3, .int p3), (4, .int x10), (5, .int x11), (6, .int y3)] → W p l e (roR 3 69) s m args below meth c s.heap [] 0 0 Q (F0 m 48 ls []) := by
            intro x10 x11 ls hf hl
            rw [hk9] at hf
            refine lv_iinc (pc := 48) (v := (y3 + (1 : Int32))) (lv' := [(6, .int (y3 + (1 : Int32))), (0, .ref bl_A), (2, .int p2), (3, .int p3), (4, .int x10), (5, .int x11)]) hx hb dX0_bestTenth_48 hl (k := 5) rfl (by rfl) (by decide) rfl (fun ls hl => ?_)
            refine lv_goto (pc := 51) (tgt := 9) hx hb dX0_bestTenth_51 (by decide) ?_
            exact ih _ _ _ _ hf (lv_sub hl [1, 2, 3, 4, 5, 0] rfl)
          refine r_ic_le (pc := 37) (tgt := 48) hx hb dX0_bestTenth_37 (by decide) hf (fun hf => ?_) (fun hf => ?_)
          · exact K9 _ _ _ hf (lv_sub hl [1, 2, 3, 4, 5, 6] rfl)
          · refine lv_iload (pc := 40) hx hb dX0_bestTenth_40 (lv_at hl 6 rfl) ?_
            refine lv_istore (pc := 42) (lv' := [(4, .int y3), (7, .int v8), (0, .ref bl_A), (2, .int p2), (3, .int p3), (5, .int y2), (6, .int y3)]) hx hb dX0_bestTenth_42 hl (by decide) rfl (fun ls hl => ?_)
            refine lv_iload (pc := 44) hx hb dX0_bestTenth_44 (lv_at hl 1 rfl) ?_
            refine lv_istore (pc := 46) (lv' := [(5, .int v8), (4, .int y3), (7, .int v8), (0, .ref bl_A), (2, .int p2), (3, .int p3), (6, .int y3)]) hx hb dX0_bestTenth_46 hl (by decide) rfl (fun ls hl => ?_)
            exact K9 _ _ _ hf (lv_sub hl [3, 4, 5, 1, 0, 6] rfl)
  exact L9 N _ _ _ _ hf (lv_sub hl [3, 5, 6, 2, 1, 0] rfl)
theorem F_X0_tenthsOfAll : CalF yX0_tenthsOfAll cX0_tenthsOfAll 7 (some .int) 3 := ⟨tw_481, tw_5, by decide +kernel⟩
set_option maxRecDepth 100000 in
set_option maxHeartbeats 4000000 in
theorem c_X0_tenthsOfAll (l : Launch) (D : va_G) (cI cJ cZ cS : ClassId) (N : Nat) (bl_A bl_settings_A : Nat) (bl_flash : Int32) (bl_settings : Nat → Int32) (p1 : Int32) (p2 : Int32) (p3 : Int32) (r : Int32) (hf : f_X0_tenthsOfAll N bl_flash bl_settings p1 p2 p3 = some r) : RoC l D cI cJ cZ cS yX0_tenthsOfAll cX0_tenthsOfAll 7 (some .int) 3 69 (w_X0 cI cJ cZ cS bl_A bl_settings_A bl_flash bl_settings) [.ref bl_A, .int p1, .int p2, .int p3] (some (.int r)) := by
  refine ro_in_i (own := RX0) (by decide +kernel) rfl (Nat.le_of_ble_eq_true rfl) ?_
  intro p e s m args below meth c ls Q E hQ hP hl
  obtain ⟨hx, hb, hml, hown, hts, hK, hN, hAO⟩ := id E
  have hl : lv_has ls 7 [(0, .ref bl_A), (1, .int p1), (2, .int p2), (3, .int p3)] := hl
  unfold f_X0_tenthsOfAll at hf
  refine lv_iconst (pc := 0) (v := (1 : Int32)) hx hb dX0_tenthsOfAll_0 (by decide) ?_
  refine lv_iload_n (pc := 1) hx hb dX0_tenthsOfAll_1 rfl (lv_at hl 3 rfl) ?_
  refine lv_ishl (pc := 2) hx hb dX0_tenthsOfAll_2 ?_
  refine lv_iconst (pc := 3) (v := (1 : Int32)) hx hb dX0_tenthsOfAll_3 (by decide) ?_
  refine lv_isub (pc := 4) hx hb dX0_tenthsOfAll_4 ?_
  refine lv_istore (pc := 5) (lv' := [(4, .int (((1 : Int32) <<< (p3 &&& 31)) - (1 : Int32))), (0, .ref bl_A), (1, .int p1), (2, .int p2), (3, .int p3)]) hx hb dX0_tenthsOfAll_5 hl (by decide) rfl (fun ls hl => ?_)
  refine lv_iconst (pc := 7) (v := (0 : Int32)) hx hb dX0_tenthsOfAll_7 (by decide) ?_
  refine lv_istore (pc := 8) (lv' := [(5, .int (0 : Int32)), (4, .int (((1 : Int32) <<< (p3 &&& 31)) - (1 : Int32))), (0, .ref bl_A), (1, .int p1), (2, .int p2), (3, .int p3)]) hx hb dX0_tenthsOfAll_8 hl (by decide) rfl (fun ls hl => ?_)
  refine lv_iload_n (pc := 10) hx hb dX0_tenthsOfAll_10 rfl (lv_at hl 3 rfl) ?_
  refine lv_istore (pc := 11) (lv' := [(6, .int p1), (5, .int (0 : Int32)), (4, .int (((1 : Int32) <<< (p3 &&& 31)) - (1 : Int32))), (0, .ref bl_A), (1, .int p1), (2, .int p2), (3, .int p3)]) hx hb dX0_tenthsOfAll_11 hl (by decide) rfl (fun ls hl => ?_)
  obtain ⟨k4, hk4, hf⟩ := lc1_e hf
  have K4 : ∀ (z5 : Int32) (ls : Array Slot), k4 z5 = some r → lv_has ls 7 [(5, .int z5)] → W p l e (roR 3 69) s m args below meth c s.heap [] 0 0 Q (F0 m 40 ls []) := by
    intro z5 ls hf hl
    rw [hk4] at hf
    refine lv_iload (pc := 40) hx hb dX0_tenthsOfAll_40 (lv_at hl 0 rfl) ?_
    exact hQ _ _ _ dX0_tenthsOfAll_42 hf
  have L13 : ∀ (n : Nat), ∀ (y1 : Int32) (y2 : Int32) (ls : Array Slot), f_X0_tenthsOfAll_L13 bl_flash bl_settings p2 p3 N k4 n y1 y2 = some r → lv_has ls 7 [(0, .ref bl_A), (2, .int p2), (3, .int p3), (4, .int (((1 : Int32) <<< (p3 &&& 31)) - (1 : Int32))), (5, .int y1), (6, .int y2)] → W p l e (roR 3 69) s m args below meth c s.heap [] 0 0 Q (F0 m 13 ls []) := by
    intro n
    induction n with
    | zero =>
      intro y1 y2 ls hf
      rw [f_X0_tenthsOfAll_L13] at hf
      cases hf
    | succ n ih =>
      intro y1 y2 ls hf hl
      rw [f_X0_tenthsOfAll_L13] at hf
      refine lv_iload (pc := 13) hx hb dX0_tenthsOfAll_13 (lv_at hl 5 rfl) ?_
      refine lv_iload_n (pc := 15) hx hb dX0_tenthsOfAll_15 rfl (lv_at hl 1 rfl) ?_
      refine r_ic_gt (pc := 16) (tgt := 40) hx hb dX0_tenthsOfAll_16 (by decide) hf (fun hf => ?_) (fun hf => ?_)
      · exact K4 _ _ hf (lv_sub hl [4] rfl)
      · refine lv_aload_n (pc := 19) hx hb dX0_tenthsOfAll_19 rfl (lv_at hl 0 rfl) ?_
        refine lv_iload (pc := 20) hx hb dX0_tenthsOfAll_20 (lv_at hl 5 rfl) ?_
        refine lv_iload_n (pc := 22) hx hb dX0_tenthsOfAll_22 rfl (lv_at hl 2 rfl) ?_
        obtain ⟨v6, hv23, hf⟩ := bd_e hf
        refine ro_Vi (pc := 23) (As := [.int y2, .int p3]) (rest := []) E (c_X0_openAt l D cI cJ cZ cS N bl_A bl_settings_A bl_flash bl_settings y2 p3 v6 hv23) F_X0_openAt rfl rfl tw_482 tw_463 tw_464 hP ⟨by decide, by decide⟩ rfl hl.1 (Nat.le_of_ble_eq_true rfl) ⟨by decide, by decide⟩ rfl dX0_tenthsOfAll_23 ?_
        refine lv_iload (pc := 26) hx hb dX0_tenthsOfAll_26 (lv_at hl 3 rfl) ?_
        obtain ⟨k7, hk7, hf⟩ := lc1_e hf
        have K7 : ∀ (x8 : Int32) (ls : Array Slot), k7 x8 = some r → lv_has ls 7 [(0, .ref bl_A), (2, .int p2), (3, .int p3), (4, .int (((1 : Int32) <<< (p3 &&& 31)) - (1 : Int32))), (5, .int x8), (6, .int y2)] → W p l e (roR 3 69) s m args below meth c s.heap [] 0 0 Q (F0 m 34 ls []) := by
          intro x8 ls hf hl
          rw [hk7] at hf
          refine lv_iinc (pc := 34) (v := (y2 + (1 : Int32))) (lv' := [(6, .int (y2 + (1 : Int32))), (0, .ref bl_A), (2, .int p2), (3, .int p3), (4, .int (((1 : Int32) <<< (p3 &&& 31)) - (1 : Int32))), (5, .int x8)]) hx hb dX0_tenthsOfAll_34 hl (k := 5) rfl (by rfl) (by decide) rfl (fun ls hl => ?_)
          refine lv_goto (pc := 37) (tgt := 13) hx hb dX0_tenthsOfAll_37 (by decide) ?_
          exact ih _ _ _ hf (lv_sub hl [1, 2, 3, 4, 5, 0] rfl)
        refine r_ic_ne (pc := 28) (tgt := 34) hx hb dX0_tenthsOfAll_28 (by decide) hf (fun hf => ?_) (fun hf => ?_)
        · exact K7 _ _ hf hl
        · refine lv_iinc (pc := 31) (v := (y1 + (1 : Int32))) (lv' := [(5, .int (y1 + (1 : Int32))), (0, .ref bl_A), (2, .int p2), (3, .int p3), (4, .int (((1 : Int32) <<< (p3 &&& 31)) - (1 : Int32))), (6, .int y2)]) hx hb dX0_tenthsOfAll_31 hl (k := 4) rfl (by rfl) (by decide) rfl (fun ls hl => ?_)
          exact K7 _ _ hf (lv_sub hl [1, 2, 3, 4, 0, 5] rfl)
  exact L13 N _ _ _ hf (lv_sub hl [3, 5, 6, 2, 1, 0] rfl)
