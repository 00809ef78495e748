theorem F_X8_tall : CalF yX8_tall cX8_tall 3 (some .int) 2 := ⟨tw_561, tw_1, by decide +kernel⟩
set_option maxRecDepth 100000 in
set_option maxHeartbeats 4000000 in
theorem c_X8_tall (l : Launch) (D : va_G) (cI cJ cZ cS : ClassId) (oe_A oe_kept_A oe_standing_A pa_A pa_signs_A sc_A sh_A sh_looks_A sh_openBits_A bl_A bl_settings_A od_A od_quarters_A st_A st_talls_A st_pairs_A hw_A hw_cutsFrom_A hw_chosen_A pw_A pw_leaves_A pw_first_A : Nat) (oe_kept : Nat → Option Nat) (oe_standing : Nat → Int32) (pa_signs : Nat → Int32) (pa_count : Int32) (sc_people : Int32) (sc_bride : Int32) (sh_count : Int32) (sh_hands : Int32) (sh_looks : Nat → Int32) (sh_openBits : Nat → Int32) (bl_flash : Int32) (bl_settings : Nat → Int32) (od_tired : Int32) (od_quarters : Nat → Int32) (st_rows : Int32) (st_columns : Int32) (st_rise : Int32) (st_talls : Nat → Int32) (st_pairs : Nat → Int32) (st_changed : Int32) (hw_cutsFrom : Nat → Int32) (hw_chosen : Nat → Int32) (pw_leaves : Nat → Int64) (pw_first : Nat → Int32) (pw_people : Int32) (pw_count : Int32) (p1 : Int32) (p2 : Int32) (sz : Nat) (r : Int32) (r_st_rise : Int32) (r_st_changed : Int32) (r_st_talls : Nat → Int32) (hf : f_X8_tall sc_people st_rise st_talls st_changed p1 p2 = some (r, r_st_rise, r_st_changed, r_st_talls)) : RwC l D cI cJ cZ cS yX8_tall cX8_tall 3 (some .int) 1 23 (w_OE cI cJ cZ cS oe_A oe_kept_A oe_standing_A pa_A pa_signs_A sc_A sh_A sh_looks_A sh_openBits_A bl_A bl_settings_A od_A od_quarters_A st_A st_talls_A st_pairs_A hw_A hw_cutsFrom_A hw_chosen_A pw_A pw_leaves_A pw_first_A oe_kept oe_standing pa_signs pa_count sc_people sc_bride sh_count sh_hands sh_looks sh_openBits bl_flash bl_settings od_tired od_quarters st_rows st_columns st_rise st_talls st_pairs st_changed hw_cutsFrom hw_chosen pw_leaves pw_first pw_people pw_count) sz [.ref oe_A, .int p1, .int p2] (some (.int r)) (w_OE cI cJ cZ cS oe_A oe_kept_A oe_standing_A pa_A pa_signs_A sc_A sh_A sh_looks_A sh_openBits_A bl_A bl_settings_A od_A od_quarters_A st_A st_talls_A st_pairs_A hw_A hw_cutsFrom_A hw_chosen_A pw_A pw_leaves_A pw_first_A oe_kept oe_standing pa_signs pa_count sc_people sc_bride sh_count sh_hands sh_looks sh_openBits bl_flash bl_settings od_tired od_quarters st_rows st_columns r_st_rise r_st_talls st_pairs r_st_changed hw_cutsFrom hw_chosen pw_leaves pw_first pw_people pw_count) := by
  refine rw_in_i (own := RX8) (by decide +kernel) rfl (Nat.le_of_ble_eq_true rfl) ?_
  intro p e s m args below meth c ls Q A E hA hQ hP hD hS hl
  obtain ⟨hx, hb, hml, hown, hts, hK, hN, hAO⟩ := id E
  have hl : lv_has ls 3 [(0, .ref oe_A), (1, .int p1), (2, .int p2)] := hl
  unfold f_X8_tall at hf
  obtain ⟨H, hH⟩ : ∃ H, H = s.heap := ⟨_, rfl⟩
  obtain ⟨locs, hlocs⟩ : ∃ L : List Loc, L = [] := ⟨_, rfl⟩
  rw [show W p l e (roR 1 23) s m args below meth c s.heap [] 0 0 Q (F0 m 0 ls []) = W p l e (roR 1 23) s m args below meth c H locs 0 0 Q (F0 m 0 ls []) by rw [hH, hlocs]]
  replace hS : va_S A s.heap H locs := by rw [hH, hlocs]; exact hS
  replace hP : va_P D vwCl (w_OE cI cJ cZ cS oe_A oe_kept_A oe_standing_A pa_A pa_signs_A sc_A sh_A sh_looks_A sh_openBits_A bl_A bl_settings_A od_A od_quarters_A st_A st_talls_A st_pairs_A hw_A hw_cutsFrom_A hw_chosen_A pw_A pw_leaves_A pw_first_A oe_kept oe_standing pa_signs pa_count sc_people sc_bride sh_count sh_hands sh_looks sh_openBits bl_flash bl_settings od_tired od_quarters st_rows st_columns st_rise st_talls st_pairs st_changed hw_cutsFrom hw_chosen pw_leaves pw_first pw_people pw_count) H := by rw [hH]; exact hP
  clear hH hlocs
  refine lv_iload_n (pc := 0) hx hb dX8_tall_0 rfl (lv_at hl 1 rfl) ?_
  refine lv_iconst (pc := 1) (v := (-1 : Int32)) hx hb dX8_tall_1 (by decide) ?_
  refine r_ic_ne (pc := 2) (tgt := 32) hx hb dX8_tall_2 (by decide) hf (fun hf => ?_) (fun hf => ?_)
  · refine lv_aload_n (pc := 32) hx hb dX8_tall_32 rfl (lv_at hl 0 rfl) ?_
    refine va_get (pc := 33) (D := D) (ci := 8) (v := .ref sc_A) (C := RX8) (T := TX8) (N := 6) hx hb hts inG8 hown hK hP 0 rfl rfl 1 (by decide) (hts _ tw_195) (fun _ h9 => h9) rfl dX8_tall_33 ?_
    refine lv_iload_n (pc := 36) hx hb dX8_tall_36 rfl (lv_at hl 1 rfl) ?_
    obtain ⟨v1, hv37, hf⟩ := bd_e hf
    refine ro_Vi (pc := 37) (As := [.int p1]) (rest := []) E (c_X5_has l D cI cJ cZ cS sc_A sh_A bl_A od_A st_A sc_people sc_bride p1 v1 hv37) F_X5_has rfl rfl tw_235 tw_236 tw_237 (hP.subm [5] rfl) ⟨by decide, by decide⟩ rfl hl.1 (Nat.le_of_ble_eq_true rfl) ⟨by decide, by decide⟩ rfl dX8_tall_37 ?_
    refine r_if_ne (pc := 40) (tgt := 45) hx hb dX8_tall_40 (by decide) hf (fun hf => ?_) (fun hf => ?_)
    · refine lv_iload_n (pc := 45) hx hb dX8_tall_45 rfl (lv_at hl 2 rfl) ?_
      refine lv_iconst (pc := 46) (v := (0 : Int32)) hx hb dX8_tall_46 (by decide) ?_
      refine lv_sipush (pc := 47) (v := (250 : Int32)) hx hb dX8_tall_47 (by decide) ?_
      obtain ⟨v2, hv50, hf⟩ := bd_e hf
      refine ro_Si (pc := 50) (As := [.int p2, .int (0 : Int32), .int (250 : Int32)]) (rest := []) E (c_X8_within l D cI cJ cZ cS p2 (0 : Int32) (250 : Int32) v2 hv50) F_X8_within tw_217 tw_218  va_P_nil ⟨by decide, by decide⟩ rfl hl.1 (Nat.le_of_ble_eq_true rfl) ⟨by decide, by decide⟩ rfl dX8_tall_50 ?_
      refine r_if_eq (pc := 53) (tgt := 71) hx hb dX8_tall_53 (by decide) hf (fun hf => ?_) (fun hf => ?_)
      · refine lv_bipush (pc := 71) (v := (-2 : Int32)) hx hb dX8_tall_71 (by decide) ?_
        cases hf
        exact hQ _ _ _ _ _ dX8_tall_73 rfl hP hD hS
      · refine lv_aload_n (pc := 56) hx hb dX8_tall_56 rfl (lv_at hl 0 rfl) ?_
        refine va_get (pc := 57) (D := D) (ci := 8) (v := .ref sc_A) (C := RX8) (T := TX8) (N := 6) hx hb hts inG8 hown hK hP 0 rfl rfl 1 (by decide) (hts _ tw_195) (fun _ h9 => h9) rfl dX8_tall_57 ?_
        refine va_getN (pc := 60) (D := D) (ci := 5) (v := .ref st_A) (C := RX5) (T := TX5) (N := 6) hx hb hts inG5 hown hK hP 5 rfl rfl 5 (by decide) (va_Nw.use rfl (hN _ tn_18)) (fun _ h9 => h9) rfl dX8_tall_60 ?_
        refine lv_iload_n (pc := 63) hx hb dX8_tall_63 rfl (lv_at hl 1 rfl) ?_
        refine lv_iload_n (pc := 64) hx hb dX8_tall_64 rfl (lv_at hl 2 rfl) ?_
        obtain ⟨⟨v3, st_changed_4, st_talls_5⟩, hv65, hf⟩ := bd_e hf
        refine rw_Vi (pc := 65) (As := [.int p1, .int p2]) (rest := []) (wr := [(oe_A, .inr (8, [.ref pa_A, .ref sc_A, .ref oe_kept_A, .ref hw_A, .ref pw_A, .ref oe_standing_A])), (oe_kept_A, .inl (cS, 2, .inr (.inr (.inr (.inr oe_kept))))), (oe_standing_A, .inl (cI, 8, .inl oe_standing)), (pa_A, .inr (3, [.ref pa_signs_A, .int pa_count])), (pa_signs_A, .inl (cI, 40, .inl pa_signs)), (sc_A, .inr (5, [.int sc_people, .int sc_bride, .ref sh_A, .ref bl_A, .ref od_A, .ref st_A])), (sh_A, .inr (6, [.int sh_count, .int sh_hands, .ref sh_looks_A, .ref sh_openBits_A])), (sh_looks_A, .inl (cI, 80, .inl sh_looks)), (sh_openBits_A, .inl (cI, 10, .inl sh_openBits)), (bl_A, .inr (0, [.int bl_flash, .ref bl_settings_A])), (bl_settings_A, .inl (cI, 24, .inl bl_settings)), (od_A, .inr (2, [.int od_tired, .ref od_quarters_A])), (od_quarters_A, .inl (cI, 8, .inl od_quarters)), (hw_A, .inr (1, [.ref hw_cutsFrom_A, .ref hw_chosen_A])), (hw_cutsFrom_A, .inl (cI, 80, .inl hw_cutsFrom)), (hw_chosen_A, .inl (cI, 8, .inl hw_chosen)), (pw_A, .inr (4, [.ref pw_leaves_A, .ref pw_first_A, .int pw_people, .int pw_count])), (pw_leaves_A, .inl (cJ, 64, .inr (.inl pw_leaves))), (pw_first_A, .inl (cI, 8, .inl pw_first))]) (wn := (w_OE cI cJ cZ cS oe_A oe_kept_A oe_standing_A pa_A pa_signs_A sc_A sh_A sh_looks_A sh_openBits_A bl_A bl_settings_A od_A od_quarters_A st_A st_talls_A st_pairs_A hw_A hw_cutsFrom_A hw_chosen_A pw_A pw_leaves_A pw_first_A oe_kept oe_standing pa_signs pa_count sc_people sc_bride sh_count sh_hands sh_looks sh_openBits bl_flash bl_settings od_tired od_quarters st_rows st_columns st_rise st_talls_5 st_pairs st_changed_4 hw_cutsFrom hw_chosen pw_leaves pw_first pw_people pw_count)) E (c_X7_changeTall l D cI cJ cZ cS st_A st_talls_A st_pairs_A st_rows st_columns st_rise st_talls st_pairs st_changed p1 p2 H.size v3 st_changed_4 st_talls_5 hv65) F_X7_changeTall rfl rfl tw_566 tw_567 tw_568 hP hD hS hA [13, 14, 15] [0, 1, 2, 3, 4, 5, 6, 7, 8, 9, 10, 11, 12, 16, 17, 18, 19, 20, 21] [0, 1, 2, 3, 4, 5, 6, 7, 8, 9, 10, 11, 12, 19, 20, 21, 13, 14, 15, 16, 17, 18] rfl rfl (by decide) (by decide) (by decide) rfl (by decide) ⟨by decide, by decide⟩ rfl hl.1 (Nat.le_of_ble_eq_true rfl) ⟨by decide, by decide⟩ rfl dX8_tall_65 (fun H locs hP hD hS => ?_)
        refine lv_goto (pc := 68) (tgt := 73) hx hb dX8_tall_68 (by decide) ?_
        cases hf
        exact hQ _ _ _ _ _ dX8_tall_73 rfl hP hD hS
    · refine lv_iconst (pc := 43) (v := (-1 : Int32)) hx hb dX8_tall_43 (by decide) ?_
      cases hf
      exact hQ _ _ _ _ _ dX8_tall_44 rfl hP hD hS
  · refine lv_iload_n (pc := 5) hx hb dX8_tall_5 rfl (lv_at hl 2 rfl) ?_
    refine lv_iconst (pc := 6) (v := (0 : Int32)) hx hb dX8_tall_6 (by decide) ?_
    refine lv_bipush (pc := 7) (v := (50 : Int32)) hx hb dX8_tall_7 (by decide) ?_
    obtain ⟨v6, hv9, hf⟩ := bd_e hf
    refine ro_Si (pc := 9) (As := [.int p2, .int (0 : Int32), .int (50 : Int32)]) (rest := []) E (c_X8_within l D cI cJ cZ cS p2 (0 : Int32) (50 : Int32) v6 hv9) F_X8_within tw_217 tw_218  va_P_nil ⟨by decide, by decide⟩ rfl hl.1 (Nat.le_of_ble_eq_true rfl) ⟨by decide, by decide⟩ rfl dX8_tall_9 ?_
    refine r_if_eq (pc := 12) (tgt := 29) hx hb dX8_tall_12 (by decide) hf (fun hf => ?_) (fun hf => ?_)
    · refine lv_bipush (pc := 29) (v := (-2 : Int32)) hx hb dX8_tall_29 (by decide) ?_
      cases hf
      exact hQ _ _ _ _ _ dX8_tall_31 rfl hP hD hS
    · refine lv_aload_n (pc := 15) hx hb dX8_tall_15 rfl (lv_at hl 0 rfl) ?_
      refine va_get (pc := 16) (D := D) (ci := 8) (v := .ref sc_A) (C := RX8) (T := TX8) (N := 6) hx hb hts inG8 hown hK hP 0 rfl rfl 1 (by decide) (hts _ tw_195) (fun _ h9 => h9) rfl dX8_tall_16 ?_
      refine va_getN (pc := 19) (D := D) (ci := 5) (v := .ref st_A) (C := RX5) (T := TX5) (N := 6) hx hb hts inG5 hown hK hP 5 rfl rfl 5 (by decide) (va_Nw.use rfl (hN _ tn_18)) (fun _ h9 => h9) rfl dX8_tall_19 ?_
      refine lv_iload_n (pc := 22) hx hb dX8_tall_22 rfl (lv_at hl 2 rfl) ?_
      obtain ⟨⟨v7, st_rise_8, st_changed_9⟩, hv23, hf⟩ := bd_e hf
      refine rw_Vi (pc := 23) (As := [.int p2]) (rest := []) (wr := [(oe_A, .inr (8, [.ref pa_A, .ref sc_A, .ref oe_kept_A, .ref hw_A, .ref pw_A, .ref oe_standing_A])), (oe_kept_A, .inl (cS, 2, .inr (.inr (.inr (.inr oe_kept))))), (oe_standing_A, .inl (cI, 8, .inl oe_standing)), (pa_A, .inr (3, [.ref pa_signs_A, .int pa_count])), (pa_signs_A, .inl (cI, 40, .inl pa_signs)), (sc_A, .inr (5, [.int sc_people, .int sc_bride, .ref sh_A, .ref bl_A, .ref od_A, .ref st_A])), (sh_A, .inr (6, [.int sh_count, .int sh_hands, .ref sh_looks_A, .ref sh_openBits_A])), (sh_looks_A, .inl (cI, 80, .inl sh_looks)), (sh_openBits_A, .inl (cI, 10, .inl sh_openBits)), (bl_A, .inr (0, [.int bl_flash, .ref bl_settings_A])), (bl_settings_A, .inl (cI, 24, .inl bl_settings)), (od_A, .inr (2, [.int od_tired, .ref od_quarters_A])), (od_quarters_A, .inl (cI, 8, .inl od_quarters)), (hw_A, .inr (1, [.ref hw_cutsFrom_A, .ref hw_chosen_A])), (hw_cutsFrom_A, .inl (cI, 80, .inl hw_cutsFrom)), (hw_chosen_A, .inl (cI, 8, .inl hw_chosen)), (pw_A, .inr (4, [.ref pw_leaves_A, .ref pw_first_A, .int pw_people, .int pw_count])), (pw_leaves_A, .inl (cJ, 64, .inr (.inl pw_leaves))), (pw_first_A, .inl (cI, 8, .inl pw_first))]) (wn := (w_OE cI cJ cZ cS oe_A oe_kept_A oe_standing_A pa_A pa_signs_A sc_A sh_A sh_looks_A sh_openBits_A bl_A bl_settings_A od_A od_quarters_A st_A st_talls_A st_pairs_A hw_A hw_cutsFrom_A hw_chosen_A pw_A pw_leaves_A pw_first_A oe_kept oe_standing pa_signs pa_count sc_people sc_bride sh_count sh_hands sh_looks sh_openBits bl_flash bl_settings od_tired od_quarters st_rows st_columns st_rise_8 st_talls st_pairs st_changed_9 hw_cutsFrom hw_chosen pw_leaves pw_first pw_people pw_count)) E (c_X7_changeRise l D cI cJ cZ cS st_A st_talls_A st_pairs_A st_rows st_columns st_rise st_talls st_pairs st_changed p2 H.size v7 st_rise_8 st_changed_9 hv23) F_X7_changeRise rfl rfl tw_562 tw_563 tw_564 hP hD hS hA [13, 14, 15] [0, 1, 2, 3, 4, 5, 6, 7, 8, 9, 10, 11, 12, 16, 17, 18, 19, 20, 21] [0, 1, 2, 3, 4, 5, 6, 7, 8, 9, 10, 11, 12, 19, 20, 21, 13, 14, 15, 16, 17, 18] rfl rfl (by decide) (by decide) (by decide) rfl (by decide) ⟨by decide, by decide⟩ rfl hl.1 (Nat.le_of_ble_eq_true rfl) ⟨by decide, by decide⟩ rfl dX8_tall_23 (fun H locs hP hD hS => ?_)
      refine lv_goto (pc := 26) (tgt := 31) hx hb dX8_tall_26 (by decide) ?_
      cases hf
      exact hQ _ _ _ _ _ dX8_tall_31 rfl hP hD hS
theorem F_X8_pair : CalF yX8_pair cX8_pair 4 (some .int) 3 := ⟨tw_573, tw_1, by decide +kernel⟩
set_option maxRecDepth 100000 in
set_option maxHeartbeats 4000000 in
theorem c_X8_pair (l : Launch) (D : va_G) (cI cJ cZ cS : ClassId) (oe_A oe_kept_A oe_standing_A pa_A pa_signs_A sc_A sh_A sh_looks_A sh_openBits_A bl_A bl_settings_A od_A od_quarters_A st_A st_talls_A st_pairs_A hw_A hw_cutsFrom_A hw_chosen_A pw_A pw_leaves_A pw_first_A : Nat) (oe_kept : Nat → Option Nat) (oe_standing : Nat → Int32) (pa_signs : Nat → Int32) (pa_count : Int32) (sc_people : Int32) (sc_bride : Int32) (sh_count : Int32) (sh_hands : Int32) (sh_looks : Nat → Int32) (sh_openBits : Nat → Int32) (bl_flash : Int32) (bl_settings : Nat → Int32) (od_tired : Int32) (od_quarters : Nat → Int32) (st_rows : Int32) (st_columns : Int32) (st_rise : Int32) (st_talls : Nat → Int32) (st_pairs : Nat → Int32) (st_changed : Int32) (hw_cutsFrom : Nat → Int32) (hw_chosen : Nat → Int32) (pw_leaves : Nat → Int64) (pw_first : Nat → Int32) (pw_people : Int32) (pw_count : Int32) (p1 : Int32) (p2 : Int32) (p3 : Int32) (sz : Nat) (r : Int32) (r_st_changed : Int32) (r_st_pairs : Nat → Int32) (hf : f_X8_pair sc_people st_pairs st_changed p1 p2 p3 = some (r, r_st_changed, r_st_pairs)) : RwC l D cI cJ cZ cS yX8_pair cX8_pair 4 (some .int) 1 24 (w_OE cI cJ cZ cS oe_A oe_kept_A oe_standing_A pa_A pa_signs_A sc_A sh_A sh_looks_A sh_openBits_A bl_A bl_settings_A od_A od_quarters_A st_A st_talls_A st_pairs_A hw_A hw_cutsFrom_A hw_chosen_A pw_A pw_leaves_A pw_first_A oe_kept oe_standing pa_signs pa_count sc_people sc_bride sh_count sh_hands sh_looks sh_openBits bl_flash bl_settings od_tired od_quarters st_rows st_columns st_rise st_talls st_pairs st_changed hw_cutsFrom hw_chosen pw_leaves pw_first pw_people pw_count) sz [.ref oe_A, .int p1, .int p2, .int p3] (some (.int r)) (w_OE cI cJ cZ cS oe_A oe_kept_A oe_standing_A pa_A pa_signs_A sc_A sh_A sh_looks_A sh_openBits_A bl_A bl_settings_A od_A od_quarters_A st_A st_talls_A st_pairs_A hw_A hw_cutsFrom_A hw_chosen_A pw_A pw_leaves_A pw_first_A oe_kept oe_standing pa_signs pa_count sc_people sc_bride sh_count sh_hands sh_looks sh_openBits bl_flash bl_settings od_tired od_quarters st_rows st_columns st_rise st_talls r_st_pairs r_st_changed hw_cutsFrom hw_chosen pw_leaves pw_first pw_people pw_count) := by
  refine rw_in_i (own := RX8) (by decide +kernel) rfl (Nat.le_of_ble_eq_true rfl) ?_
  intro p e s m args below meth c ls Q A E hA hQ hP hD hS hl
  obtain ⟨hx, hb, hml, hown, hts, hK, hN, hAO⟩ := id E
  have hl : lv_has ls 4 [(0, .ref oe_A), (1, .int p1), (2, .int p2), (3, .int p3)] := hl
  unfold f_X8_pair at hf
  obtain ⟨H, hH⟩ : ∃ H, H = s.heap := ⟨_, rfl⟩
  obtain ⟨locs, hlocs⟩ : ∃ L : List Loc, L = [] := ⟨_, rfl⟩
  rw [show W p l e (roR 1 24) s m args below meth c s.heap [] 0 0 Q (F0 m 0 ls []) = W p l e (roR 1 24) s m args below meth c H locs 0 0 Q (F0 m 0 ls []) by rw [hH, hlocs]]
  replace hS : va_S A s.heap H locs := by rw [hH, hlocs]; exact hS
  replace hP : va_P D vwCl (w_OE cI cJ cZ cS oe_A oe_kept_A oe_standing_A pa_A pa_signs_A sc_A sh_A sh_looks_A sh_openBits_A bl_A bl_settings_A od_A od_quarters_A st_A st_talls_A st_pairs_A hw_A hw_cutsFrom_A hw_chosen_A pw_A pw_leaves_A pw_first_A oe_kept oe_standing pa_signs pa_count sc_people sc_bride sh_count sh_hands sh_looks sh_openBits bl_flash bl_settings od_tired od_quarters st_rows st_columns st_rise st_talls st_pairs st_changed hw_cutsFrom hw_chosen pw_leaves pw_first pw_people pw_count) H := by rw [hH]; exact hP
  clear hH hlocs
  refine lv_aload_n (pc := 0) hx hb dX8_pair_0 rfl (lv_at hl 0 rfl) ?_
  refine va_get (pc := 1) (D := D) (ci := 8) (v := .ref sc_A) (C := RX8) (T := TX8) (N := 6) hx hb hts inG8 hown hK hP 0 rfl rfl 1 (by decide) (hts _ tw_195) (fun _ h9 => h9) rfl dX8_pair_1 ?_
  refine lv_iload_n (pc := 4) hx hb dX8_pair_4 rfl (lv_at hl 1 rfl) ?_
  obtain ⟨v1, hv5, hf⟩ := bd_e hf
  refine ro_Vi (pc := 5) (As := [.int p1]) (rest := []) E (c_X5_has l D cI cJ cZ cS sc_A sh_A bl_A od_A st_A sc_people sc_bride p1 v1 hv5) F_X5_has rfl rfl tw_235 tw_236 tw_237 (hP.subm [5] rfl) ⟨by decide, by decide⟩ rfl hl.1 (Nat.le_of_ble_eq_true rfl) ⟨by decide, by decide⟩ rfl dX8_pair_5 ?_
  refine r_if_eq (pc := 8) (tgt := 27) hx hb dX8_pair_8 (by decide) hf (fun hf => ?_) (fun hf => ?_)
  · refine lv_iconst (pc := 27) (v := (-1 : Int32)) hx hb dX8_pair_27 (by decide) ?_
    cases hf
    exact hQ _ _ _ _ _ dX8_pair_28 rfl hP hD hS
  · refine lv_aload_n (pc := 11) hx hb dX8_pair_11 rfl (lv_at hl 0 rfl) ?_
    refine va_get (pc := 12) (D := D) (ci := 8) (v := .ref sc_A) (C := RX8) (T := TX8) (N := 6) hx hb hts inG8 hown hK hP 0 rfl rfl 1 (by decide) (hts _ tw_195) (fun _ h9 => h9) rfl dX8_pair_12 ?_
    refine lv_iload_n (pc := 15) hx hb dX8_pair_15 rfl (lv_at hl 2 rfl) ?_
    obtain ⟨v2, hv16, hf⟩ := bd_e hf
    refine ro_Vi (pc := 16) (As := [.int p2]) (rest := []) E (c_X5_has l D cI cJ cZ cS sc_A sh_A bl_A od_A st_A sc_people sc_bride p2 v2 hv16) F_X5_has rfl rfl tw_235 tw_236 tw_237 (hP.subm [5] rfl) ⟨by decide, by decide⟩ rfl hl.1 (Nat.le_of_ble_eq_true rfl) ⟨by decide, by decide⟩ rfl dX8_pair_16 ?_
    refine r_if_eq (pc := 19) (tgt := 27) hx hb dX8_pair_19 (by decide) hf (fun hf => ?_) (fun hf => ?_)
    · refine lv_iconst (pc := 27) (v := (-1 : Int32)) hx hb dX8_pair_27 (by decide) ?_
      cases hf
      exact hQ _ _ _ _ _ dX8_pair_28 rfl hP hD hS
    · refine lv_iload_n (pc := 22) hx hb dX8_pair_22 rfl (lv_at hl 1 rfl) ?_
      refine lv_iload_n (pc := 23) hx hb dX8_pair_23 rfl (lv_at hl 2 rfl) ?_
      refine r_ic_ne (pc := 24) (tgt := 29) hx hb dX8_pair_24 (by decide) hf (fun hf => ?_) (fun hf => ?_)
      · refine lv_iload_n (pc := 29) hx hb dX8_pair_29 rfl (lv_at hl 3 rfl) ?_
        refine lv_iconst (pc := 30) (v := (0 : Int32)) hx hb dX8_pair_30 (by decide) ?_
        refine lv_iconst (pc := 31) (v := (2 : Int32)) hx hb dX8_pair_31 (by decide) ?_
        obtain ⟨v3, hv32, hf⟩ := bd_e hf
        refine ro_Si (pc := 32) (As := [.int p3, .int (0 : Int32), .int (2 : Int32)]) (rest := []) E (c_X8_within l D cI cJ cZ cS p3 (0 : Int32) (2 : Int32) v3 hv32) F_X8_within tw_217 tw_218  va_P_nil ⟨by decide, by decide⟩ rfl hl.1 (Nat.le_of_ble_eq_true rfl) ⟨by decide, by decide⟩ rfl dX8_pair_32 ?_
        refine r_if_ne (pc := 35) (tgt := 41) hx hb dX8_pair_35 (by decide) hf (fun hf => ?_) (fun hf => ?_)
        · refine lv_aload_n (pc := 41) hx hb dX8_pair_41 rfl (lv_at hl 0 rfl) ?_
          refine va_get (pc := 42) (D := D) (ci := 8) (v := .ref sc_A) (C := RX8) (T := TX8) (N := 6) hx hb hts inG8 hown hK hP 0 rfl rfl 1 (by decide) (hts _ tw_195) (fun _ h9 => h9) rfl dX8_pair_42 ?_
          refine va_getN (pc := 45) (D := D) (ci := 5) (v := .ref st_A) (C := RX5) (T := TX5) (N := 6) hx hb hts inG5 hown hK hP 5 rfl rfl 5 (by decide) (va_Nw.use rfl (hN _ tn_18)) (fun _ h9 => h9) rfl dX8_pair_45 ?_
          refine lv_iload_n (pc := 48) hx hb dX8_pair_48 rfl (lv_at hl 1 rfl) ?_
          refine lv_iload_n (pc := 49) hx hb dX8_pair_49 rfl (lv_at hl 2 rfl) ?_
          refine lv_iload_n (pc := 50) hx hb dX8_pair_50 rfl (lv_at hl 3 rfl) ?_
          obtain ⟨⟨v4, st_changed_5, st_pairs_6⟩, hv51, hf⟩ := bd_e hf
          refine rw_Vi (pc := 51) (As := [.int p1, .int p2, .int p3]) (rest := []) (wr := [(oe_A, .inr (8, [.ref pa_A, .ref sc_A, .ref oe_kept_A, .ref hw_A, .ref pw_A, .ref oe_standing_A])), (oe_kept_A, .inl (cS, 2, .inr (.inr (.inr (.inr oe_kept))))), (oe_standing_A, .inl (cI, 8, .inl oe_standing)), (pa_A, .inr (3, [.ref pa_signs_A, .int pa_count])), (pa_signs_A, .inl (cI, 40, .inl pa_signs)), (sc_A, .inr (5, [.int sc_people, .int sc_bride, .ref sh_A, .ref bl_A, .ref od_A, .ref st_A])), (sh_A, .inr (6, [.int sh_count, .int sh_hands, .ref sh_looks_A, .ref sh_openBits_A])), (sh_looks_A, .inl (cI, 80, .inl sh_looks)), (sh_openBits_A, .inl (cI, 10, .inl sh_openBits)), (bl_A, .inr (0, [.int bl_flash, .ref bl_settings_A])), (bl_settings_A, .inl (cI, 24, .inl bl_settings)), (od_A, .inr (2, [.int od_tired, .ref od_quarters_A])), (od_quarters_A, .inl (cI, 8, .inl od_quarters)), (hw_A, .inr (1, [.ref hw_cutsFrom_A, .ref hw_chosen_A])), (hw_cutsFrom_A, .inl (cI, 80, .inl hw_cutsFrom)), (hw_chosen_A, .inl (cI, 8, .inl hw_chosen)), (pw_A, .inr (4, [.ref pw_leaves_A, .ref pw_first_A, .int pw_people, .int pw_count])), (pw_leaves_A, .inl (cJ, 64, .inr (.inl pw_leaves))), (pw_first_A, .inl (cI, 8, .inl pw_first))]) (wn := (w_OE cI cJ cZ cS oe_A oe_kept_A oe_standing_A pa_A pa_signs_A sc_A sh_A sh_looks_A sh_openBits_A bl_A bl_settings_A od_A od_quarters_A st_A st_talls_A st_pairs_A hw_A hw_cutsFrom_A hw_chosen_A pw_A pw_leaves_A pw_first_A oe_kept oe_standing pa_signs pa_count sc_people sc_bride sh_count sh_hands sh_looks sh_openBits bl_flash bl_settings od_tired od_quarters st_rows st_columns st_rise st_talls st_pairs_6 st_changed_5 hw_cutsFrom hw_chosen pw_leaves pw_first pw_people pw_count)) E (c_X7_changePair l D cI cJ cZ cS st_A st_talls_A st_pairs_A st_rows st_columns st_rise st_talls st_pairs st_changed p1 p2 p3 H.size v4 st_changed_5 st_pairs_6 hv51) F_X7_changePair rfl rfl tw_574 tw_575 tw_576 hP hD hS hA [13, 14, 15] [0, 1, 2, 3, 4, 5, 6, 7, 8, 9, 10, 11, 12, 16, 17, 18, 19, 20, 21] [0, 1, 2, 3, 4, 5, 6, 7, 8, 9, 10, 11, 12, 19, 20, 21, 13, 14, 15, 16, 17, 18] rfl rfl (by decide) (by decide) (by decide) rfl (by decide) ⟨by decide, by decide⟩ rfl hl.1 (Nat.le_of_ble_eq_true rfl) ⟨by decide, by decide⟩ rfl dX8_pair_51 (fun H locs hP hD hS => ?_)
          cases hf
          exact hQ _ _ _ _ _ dX8_pair_54 rfl hP hD hS
        · refine lv_bipush (pc := 38) (v := (-2 : Int32)) hx hb dX8_pair_38 (by decide) ?_
          cases hf
          exact hQ _ _ _ _ _ dX8_pair_40 rfl hP hD hS
      · refine lv_iconst (pc := 27) (v := (-1 : Int32)) hx hb dX8_pair_27 (by decide) ?_
        cases hf
        exact hQ _ _ _ _ _ dX8_pair_28 rfl hP hD hS
theorem F_X8_judge : CalF yX8_judge cX8_judge 3 (some .int) 1 := ⟨tw_581, tw_1, by decide +kernel⟩
set_option maxRecDepth 100000 in
set_option maxHeartbeats 4000000 in
theorem c_X8_judge (l : Launch) (D : va_G) (cI cJ cZ cS : ClassId) (N : Nat) (oe_A oe_kept_A oe_standing_A pa_A pa_signs_A sc_A sh_A sh_looks_A sh_openBits_A bl_A bl_settings_A od_A od_quarters_A st_A st_talls_A st_pairs_A hw_A hw_cutsFrom_A hw_chosen_A pw_A pw_leaves_A pw_first_A : Nat) (oe_kept : Nat → Option Nat) (oe_standing : Nat → Int32) (pa_signs : Nat → Int32) (pa_count : Int32) (sc_people : Int32) (sc_bride : Int32) (sh_count : Int32) (sh_hands : Int32) (sh_looks : Nat → Int32) (sh_openBits : Nat → Int32) (bl_flash : Int32) (bl_settings : Nat → Int32) (od_tired : Int32) (od_quarters : Nat → Int32) (st_rows : Int32) (st_columns : Int32) (st_rise : Int32) (st_talls : Nat → Int32) (st_pairs : Nat → Int32) (st_changed : Int32) (hw_cutsFrom : Nat → Int32) (hw_chosen : Nat → Int32) (pw_leaves : Nat → Int64) (pw_first : Nat → Int32) (pw_people : Int32) (pw_count : Int32) (p1 : Int32) (sz : Nat) (r : Int32) (r_oe_standing : Nat → Int32) (hf : f_X8_judge N oe_standing pa_signs pa_count sc_people st_rows st_columns st_rise st_talls st_pairs p1 = some (r, r_oe_standing)) : RwC l D cI cJ cZ cS yX8_judge cX8_judge 3 (some .int) 5 122 (w_OE cI cJ cZ cS oe_A oe_kept_A oe_standing_A pa_A pa_signs_A sc_A sh_A sh_looks_A sh_openBits_A bl_A bl_settings_A od_A od_quarters_A st_A st_talls_A st_pairs_A hw_A hw_cutsFrom_A hw_chosen_A pw_A pw_leaves_A pw_first_A oe_kept oe_standing pa_signs pa_count sc_people sc_bride sh_count sh_hands sh_looks sh_openBits bl_flash bl_settings od_tired od_quarters st_rows st_columns st_rise st_talls st_pairs st_changed hw_cutsFrom hw_chosen pw_leaves pw_first pw_people pw_count) sz [.ref oe_A, .int p1] (some (.int r)) (w_OE cI cJ cZ cS oe_A oe_kept_A oe_standing_A pa_A pa_signs_A sc_A sh_A sh_looks_A sh_openBits_A bl_A bl_settings_A od_A od_quarters_A st_A st_talls_A st_pairs_A hw_A hw_cutsFrom_A hw_chosen_A pw_A pw_leaves_A pw_first_A oe_kept r_oe_standing pa_signs pa_count sc_people sc_bride sh_count sh_hands sh_looks sh_openBits bl_flash bl_settings od_tired od_quarters st_rows st_columns st_rise st_talls st_pairs st_changed hw_cutsFrom hw_chosen pw_leaves pw_first pw_people pw_count) := by
  refine rw_in_i (own := RX8) (by decide +kernel) rfl (Nat.le_of_ble_eq_true rfl) ?_
  intro p e s m args below meth c ls Q A E hA hQ hP hD hS hl
  obtain ⟨hx, hb, hml, hown, hts, hK, hN, hAO⟩ := id E
  have hl : lv_has ls 3 [(0, .ref oe_A), (1, .int p1)] := hl
  unfold f_X8_judge at hf
  obtain ⟨H, hH⟩ : ∃ H, H = s.heap := ⟨_, rfl⟩
  obtain ⟨locs, hlocs⟩ : ∃ L : List Loc, L = [] := ⟨_, rfl⟩
  rw [show W p l e (roR 5 122) s m args below meth c s.heap [] 0 0 Q (F0 m 0 ls []) = W p l e (roR 5 122) s m args below meth c H locs 0 0 Q (F0 m 0 ls []) by rw [hH, hlocs]]
  replace hS : va_S A s.heap H locs := by rw [hH, hlocs]; exact hS
  replace hP : va_P D vwCl (w_OE cI cJ cZ cS oe_A oe_kept_A oe_standing_A pa_A pa_signs_A sc_A sh_A sh_looks_A sh_openBits_A bl_A bl_settings_A od_A od_quarters_A st_A st_talls_A st_pairs_A hw_A hw_cutsFrom_A hw_chosen_A pw_A pw_leaves_A pw_first_A oe_kept oe_standing pa_signs pa_count sc_people sc_bride sh_count sh_hands sh_looks sh_openBits bl_flash bl_settings od_tired od_quarters st_rows st_columns st_rise st_talls st_pairs st_changed hw_cutsFrom hw_chosen pw_leaves pw_first pw_people pw_count) H := by rw [hH]; exact hP
  clear hH hlocs
  refine lv_iload_n (pc := 0) hx hb dX8_judge_0 rfl (lv_at hl 1 rfl) ?_
  refine lv_iconst (pc := 1) (v := (0 : Int32)) hx hb dX8_judge_1 (by decide) ?_
  refine lv_iconst (pc := 2) (v := (1 : Int32)) hx hb dX8_judge_2 (by decide) ?_
  obtain ⟨v1, hv3, hf⟩ := bd_e hf
  refine ro_Si (pc := 3) (As := [.int p1, .int (0 : Int32), .int (1 : Int32)]) (rest := []) E (c_X8_within l D cI cJ cZ cS p1 (0 : Int32) (1 : Int32) v1 hv3) F_X8_within tw_217 tw_218  va_P_nil ⟨by decide, by decide⟩ rfl hl.1 (Nat.le_of_ble_eq_true rfl) ⟨by decide, by decide⟩ rfl dX8_judge_3 ?_
  refine r_if_ne (pc := 6) (tgt := 12) hx hb dX8_judge_6 (by decide) hf (fun hf => ?_) (fun hf => ?_)
  · refine lv_aload_n (pc := 12) hx hb dX8_judge_12 rfl (lv_at hl 0 rfl) ?_
    obtain ⟨v2, hv13, hf⟩ := bd_e hf
    refine ro_Vi (pc := 13) (As := []) (rest := []) E (c_X8_standingFault l D cI cJ cZ cS N oe_A oe_kept_A oe_standing_A pa_A pa_signs_A sc_A sh_A sh_looks_A sh_openBits_A bl_A bl_settings_A od_A od_quarters_A st_A st_talls_A st_pairs_A hw_A hw_cutsFrom_A hw_chosen_A pw_A pw_leaves_A pw_first_A oe_kept oe_standing pa_signs pa_count sc_people sc_bride sh_count sh_hands sh_looks sh_openBits bl_flash bl_settings od_tired od_quarters st_rows st_columns st_rise st_talls st_pairs st_changed hw_cutsFrom hw_chosen pw_leaves pw_first pw_people pw_count v2 hv13) F_X8_standingFault rfl rfl tw_282 tw_284 tp_1 hP ⟨by decide, by decide⟩ rfl hl.1 (Nat.le_of_ble_eq_true rfl) ⟨by decide, by decide⟩ rfl dX8_judge_13 ?_
    refine lv_bipush (pc := 16) (v := (-6 : Int32)) hx hb dX8_judge_16 (by decide) ?_
    refine r_ic_eq (pc := 18) (tgt := 24) hx hb dX8_judge_18 (by decide) hf (fun hf => ?_) (fun hf => ?_)
    · refine lv_aload_n (pc := 24) hx hb dX8_judge_24 rfl (lv_at hl 0 rfl) ?_
      refine va_get (pc := 25) (D := D) (ci := 8) (v := .ref pa_A) (C := RX8) (T := TX8) (N := 6) hx hb hts inG8 hown hK hP 0 rfl rfl 0 (by decide) (hts _ tw_194) (fun _ h9 => h9) rfl dX8_judge_25 ?_
      refine lv_aload_n (pc := 28) hx hb dX8_judge_28 rfl (lv_at hl 0 rfl) ?_
      refine va_get (pc := 29) (D := D) (ci := 8) (v := .ref oe_standing_A) (C := RX8) (T := TX8) (N := 6) hx hb hts inG8 hown hK hP 0 rfl rfl 5 (by decide) (hts _ tw_199) (fun _ h9 => h9) rfl dX8_judge_29 ?_
      refine lv_aload_n (pc := 32) hx hb dX8_judge_32 rfl (lv_at hl 0 rfl) ?_
      refine va_get (pc := 33) (D := D) (ci := 8) (v := .ref sc_A) (C := RX8) (T := TX8) (N := 6) hx hb hts inG8 hown hK hP 0 rfl rfl 1 (by decide) (hts _ tw_195) (fun _ h9 => h9) rfl dX8_judge_33 ?_
      refine va_getN (pc := 36) (D := D) (ci := 5) (v := .int sc_people) (C := RX5) (T := TX5) (N := 6) hx hb hts inG5 hown hK hP 5 rfl rfl 0 (by decide) (va_Nw.use rfl (hN _ tn_13)) (fun _ h9 => h9) rfl dX8_judge_36 ?_
      obtain ⟨oe_standing_3, hv39, hf⟩ := bd_e hf
      refine rw_Vv (pc := 39) (As := [.ref oe_standing_A, .int sc_people]) (rest := []) (wr := [(oe_A, .inr (8, [.ref pa_A, .ref sc_A, .ref oe_kept_A, .ref hw_A, .ref pw_A, .ref oe_standing_A])), (oe_kept_A, .inl (cS, 2, .inr (.inr (.inr (.inr oe_kept))))), (sc_A, .inr (5, [.int sc_people, .int sc_bride, .ref sh_A, .ref bl_A, .ref od_A, .ref st_A])), (sh_A, .inr (6, [.int sh_count, .int sh_hands, .ref sh_looks_A, .ref sh_openBits_A])), (sh_looks_A, .inl (cI, 80, .inl sh_looks)), (sh_openBits_A, .inl (cI, 10, .inl sh_openBits)), (bl_A, .inr (0, [.int bl_flash, .ref bl_settings_A])), (bl_settings_A, .inl (cI, 24, .inl bl_settings)), (od_A, .inr (2, [.int od_tired, .ref od_quarters_A])), (od_quarters_A, .inl (cI, 8, .inl od_quarters)), (st_A, .inr (7, [.int st_rows, .int st_columns, .int st_rise, .ref st_talls_A, .ref st_pairs_A, .int st_changed])), (st_talls_A, .inl (cI, 8, .inl st_talls)), (st_pairs_A, .inl (cI, 64, .inl st_pairs)), (hw_A, .inr (1, [.ref hw_cutsFrom_A, .ref hw_chosen_A])), (hw_cutsFrom_A, .inl (cI, 80, .inl hw_cutsFrom)), (hw_chosen_A, .inl (cI, 8, .inl hw_chosen)), (pw_A, .inr (4, [.ref pw_leaves_A, .ref pw_first_A, .int pw_people, .int pw_count])), (pw_leaves_A, .inl (cJ, 64, .inr (.inl pw_leaves))), (pw_first_A, .inl (cI, 8, .inl pw_first))]) (wn := (w_OE cI cJ cZ cS oe_A oe_kept_A oe_standing_A pa_A pa_signs_A sc_A sh_A sh_looks_A sh_openBits_A bl_A bl_settings_A od_A od_quarters_A st_A st_talls_A st_pairs_A hw_A hw_cutsFrom_A hw_chosen_A pw_A pw_leaves_A pw_first_A oe_kept oe_standing_3 pa_signs pa_count sc_people sc_bride sh_count sh_hands sh_looks sh_openBits bl_flash bl_settings od_tired od_quarters st_rows st_columns st_rise st_talls st_pairs st_changed hw_cutsFrom hw_chosen pw_leaves pw_first pw_people pw_count)) E (c_X3_readStanding l D cI cJ cZ cS N pa_A pa_signs_A oe_standing_A pa_signs pa_count oe_standing sc_people H.size oe_standing_3 hv39) F_X3_readStanding rfl rfl tw_582 tw_583 tw_584 hP hD hS hA [3, 4, 2] [0, 1, 5, 6, 7, 8, 9, 10, 11, 12, 13, 14, 15, 16, 17, 18, 19, 20, 21] [0, 1, 21, 19, 20, 2, 3, 4, 5, 6, 7, 8, 9, 10, 11, 12, 13, 14, 15, 16, 17, 18] rfl rfl (by decide) (by decide) (by decide) rfl (by decide) ⟨by decide, by decide⟩ rfl hl.1 (Nat.le_of_ble_eq_true rfl) ⟨by decide, by decide⟩ rfl dX8_judge_39 (fun H locs hP hD hS => ?_)
      refine lv_aload_n (pc := 42) hx hb dX8_judge_42 rfl (lv_at hl 0 rfl) ?_
      refine va_get (pc := 43) (D := D) (ci := 8) (v := .ref sc_A) (C := RX8) (T := TX8) (N := 6) hx hb hts inG8 hown hK hP 0 rfl rfl 1 (by decide) (hts _ tw_195) (fun _ h9 => h9) rfl dX8_judge_43 ?_
      refine va_getN (pc := 46) (D := D) (ci := 5) (v := .ref st_A) (C := RX5) (T := TX5) (N := 6) hx hb hts inG5 hown hK hP 5 rfl rfl 5 (by decide) (va_Nw.use rfl (hN _ tn_18)) (fun _ h9 => h9) rfl dX8_judge_46 ?_
      refine lv_aload_n (pc := 49) hx hb dX8_judge_49 rfl (lv_at hl 0 rfl) ?_
      refine va_get (pc := 50) (D := D) (ci := 8) (v := .ref oe_standing_A) (C := RX8) (T := TX8) (N := 6) hx hb hts inG8 hown hK hP 0 rfl rfl 5 (by decide) (hts _ tw_199) (fun _ h9 => h9) rfl dX8_judge_50 ?_
      refine lv_aload_n (pc := 53) hx hb dX8_judge_53 rfl (lv_at hl 0 rfl) ?_
      refine va_get (pc := 54) (D := D) (ci := 8) (v := .ref sc_A) (C := RX8) (T := TX8) (N := 6) hx hb hts inG8 hown hK hP 0 rfl rfl 1 (by decide) (hts _ tw_195) (fun _ h9 => h9) rfl dX8_judge_54 ?_
      refine va_getN (pc := 57) (D := D) (ci := 5) (v := .int sc_people) (C := RX5) (T := TX5) (N := 6) hx hb hts inG5 hown hK hP 5 rfl rfl 0 (by decide) (va_Nw.use rfl (hN _ tn_13)) (fun _ h9 => h9) rfl dX8_judge_57 ?_
      obtain ⟨v4, hv60, hf⟩ := bd_e hf
      refine ro_Vi (pc := 60) (As := [.ref oe_standing_A, .int sc_people]) (rest := []) E (c_X7_firstWrong l D cI cJ cZ cS N st_A st_talls_A st_pairs_A oe_standing_A st_rows st_columns st_rise st_talls st_pairs st_changed oe_standing_3 sc_people v4 hv60) F_X7_firstWrong rfl rfl tw_586 tw_587 tw_588 (hP.subm [13, 14, 15, 2] rfl) ⟨by decide, by decide⟩ rfl hl.1 (Nat.le_of_ble_eq_true rfl) ⟨by decide, by decide⟩ rfl dX8_judge_60 ?_
      refine lv_istore_n (pc := 63) (lv' := [(2, .int v4), (0, .ref oe_A), (1, .int p1)]) hx hb dX8_judge_63 rfl hl (by decide) rfl (fun ls hl => ?_)
      refine lv_iload_n (pc := 64) hx hb dX8_judge_64 rfl (lv_at hl 0 rfl) ?_
      refine lv_bipush (pc := 65) (v := (-6 : Int32)) hx hb dX8_judge_65 (by decide) ?_
      refine r_ic_eq (pc := 67) (tgt := 74) hx hb dX8_judge_67 (by decide) hf (fun hf => ?_) (fun hf => ?_)
      · refine lv_iload_n (pc := 74) hx hb dX8_judge_74 rfl (lv_at hl 0 rfl) ?_
        cases hf
        exact hQ _ _ _ _ _ dX8_judge_75 rfl hP hD hS
      · refine lv_iload_n (pc := 70) hx hb dX8_judge_70 rfl (lv_at hl 2 rfl) ?_
        refine r_if_ne (pc := 71) (tgt := 76) hx hb dX8_judge_71 (by decide) hf (fun hf => ?_) (fun hf => ?_)
        · refine lv_aload_n (pc := 76) hx hb dX8_judge_76 rfl (lv_at hl 1 rfl) ?_
          refine va_get (pc := 77) (D := D) (ci := 8) (v := .ref sc_A) (C := RX8) (T := TX8) (N := 6) hx hb hts inG8 hown hK hP 0 rfl rfl 1 (by decide) (hts _ tw_195) (fun _ h9 => h9) rfl dX8_judge_77 ?_
          refine va_getN (pc := 80) (D := D) (ci := 5) (v := .ref st_A) (C := RX5) (T := TX5) (N := 6) hx hb hts inG5 hown hK hP 5 rfl rfl 5 (by decide) (va_Nw.use rfl (hN _ tn_18)) (fun _ h9 => h9) rfl dX8_judge_80 ?_
          refine lv_iload_n (pc := 83) hx hb dX8_judge_83 rfl (lv_at hl 0 rfl) ?_
          refine lv_aload_n (pc := 84) hx hb dX8_judge_84 rfl (lv_at hl 1 rfl) ?_
          refine va_get (pc := 85) (D := D) (ci := 8) (v := .ref oe_standing_A) (C := RX8) (T := TX8) (N := 6) hx hb hts inG8 hown hK hP 0 rfl rfl 5 (by decide) (hts _ tw_199) (fun _ h9 => h9) rfl dX8_judge_85 ?_
          refine lv_aload_n (pc := 88) hx hb dX8_judge_88 rfl (lv_at hl 1 rfl) ?_
          refine va_get (pc := 89) (D := D) (ci := 8) (v := .ref sc_A) (C := RX8) (T := TX8) (N := 6) hx hb hts inG8 hown hK hP 0 rfl rfl 1 (by decide) (hts _ tw_195) (fun _ h9 => h9) rfl dX8_judge_89 ?_
          refine va_getN (pc := 92) (D := D) (ci := 5) (v := .int sc_people) (C := RX5) (T := TX5) (N := 6) hx hb hts inG5 hown hK hP 5 rfl rfl 0 (by decide) (va_Nw.use rfl (hN _ tn_13)) (fun _ h9 => h9) rfl dX8_judge_92 ?_
          obtain ⟨v5, hv95, hf⟩ := bd_e hf
          refine ro_Vi (pc := 95) (As := [.int v4, .ref oe_standing_A, .int sc_people]) (rest := []) E (c_X7_wrongFor l D cI cJ cZ cS N st_A st_talls_A st_pairs_A oe_standing_A st_rows st_columns st_rise st_talls st_pairs st_changed oe_standing_3 v4 sc_people v5 hv95) F_X7_wrongFor rfl rfl tw_617 tw_591 tw_592 (hP.subm [13, 14, 15, 2] rfl) ⟨by decide, by decide⟩ rfl hl.1 (Nat.le_of_ble_eq_true rfl) ⟨by decide, by decide⟩ rfl dX8_judge_95 ?_
          cases hf
          exact hQ _ _ _ _ _ dX8_judge_98 rfl hP hD hS
        · refine lv_iload_n (pc := 74) hx hb dX8_judge_74 rfl (lv_at hl 0 rfl) ?_
          cases hf
          exact hQ _ _ _ _ _ dX8_judge_75 rfl hP hD hS
    · refine lv_bipush (pc := 21) (v := (-5 : Int32)) hx hb dX8_judge_21 (by decide) ?_
      cases hf
      exact hQ _ _ _ _ _ dX8_judge_23 rfl hP hD hS
  · refine lv_bipush (pc := 9) (v := (-2 : Int32)) hx hb dX8_judge_9 (by decide) ?_
    cases hf
    exact hQ _ _ _ _ _ dX8_judge_11 rfl hP hD hS
theorem F_X8_placed : CalF yX8_placed cX8_placed 2 (some .int) 1 := ⟨tw_621, tw_1, by decide +kernel⟩
set_option maxRecDepth 100000 in
set_option maxHeartbeats 4000000 in
theorem c_X8_placed (l : Launch) (D : va_G) (cI cJ cZ cS : ClassId) (N : Nat) (oe_A oe_kept_A oe_standing_A pa_A pa_signs_A sc_A sh_A sh_looks_A sh_openBits_A bl_A bl_settings_A od_A od_quarters_A st_A st_talls_A st_pairs_A hw_A hw_cutsFrom_A hw_chosen_A pw_A pw_leaves_A pw_first_A : Nat) (oe_kept : Nat → Option Nat) (oe_standing : Nat → Int32) (pa_signs : Nat → Int32) (pa_count : Int32) (sc_people : Int32) (sc_bride : Int32) (sh_count : Int32) (sh_hands : Int32) (sh_looks : Nat → Int32) (sh_openBits : Nat → Int32) (bl_flash : Int32) (bl_settings : Nat → Int32) (od_tired : Int32) (od_quarters : Nat → Int32) (st_rows : Int32) (st_columns : Int32) (st_rise : Int32) (st_talls : Nat → Int32) (st_pairs : Nat → Int32) (st_changed : Int32) (hw_cutsFrom : Nat → Int32) (hw_chosen : Nat → Int32) (pw_leaves : Nat → Int64) (pw_first : Nat → Int32) (pw_people : Int32) (pw_count : Int32) (p1 : Int32) (sz : Nat) (r : Int32) (r_st_changed : Int32) (r_pw_people : Int32) (r_pw_count : Int32) (r_pw_leaves : Nat → Int64) (r_pw_first : Nat → Int32) (hf : f_X8_placed N sc_people st_rows st_columns st_rise st_talls st_pairs st_changed pw_leaves pw_first pw_people pw_count p1 = some (r, r_st_changed, r_pw_people, r_pw_count, r_pw_leaves, r_pw_first)) : RwC l D cI cJ cZ cS yX8_placed cX8_placed 2 (some .int) 20 591 (w_OE cI cJ cZ cS oe_A oe_kept_A oe_standing_A pa_A pa_signs_A sc_A sh_A sh_looks_A sh_openBits_A bl_A bl_settings_A od_A od_quarters_A st_A st_talls_A st_pairs_A hw_A hw_cutsFrom_A hw_chosen_A pw_A pw_leaves_A pw_first_A oe_kept oe_standing pa_signs pa_count sc_people sc_bride sh_count sh_hands sh_looks sh_openBits bl_flash bl_settings od_tired od_quarters st_rows st_columns st_rise st_talls st_pairs st_changed hw_cutsFrom hw_chosen pw_leaves pw_first pw_people pw_count) sz [.ref oe_A, .int p1] (some (.int r)) (w_OE cI cJ cZ cS oe_A oe_kept_A oe_standing_A pa_A pa_signs_A sc_A sh_A sh_looks_A sh_openBits_A bl_A bl_settings_A od_A od_quarters_A st_A st_talls_A st_pairs_A hw_A hw_cutsFrom_A hw_chosen_A pw_A pw_leaves_A pw_first_A oe_kept oe_standing pa_signs pa_count sc_people sc_bride sh_count sh_hands sh_looks sh_openBits bl_flash bl_settings od_tired od_quarters st_rows st_columns st_rise st_talls st_pairs r_st_changed hw_cutsFrom hw_chosen r_pw_leaves r_pw_first r_pw_people r_pw_count) := by
  refine rw_in_i (own := RX8) (by decide +kernel) rfl (Nat.le_of_ble_eq_true rfl) ?_
  intro p e s m args below meth c ls Q A E hA hQ hP hD hS hl
  obtain ⟨hx, hb, hml, hown, hts, hK, hN, hAO⟩ := id E
  have hl : lv_has ls 2 [(0, .ref oe_A), (1, .int p1)] := hl
  unfold f_X8_placed at hf
  obtain ⟨H, hH⟩ : ∃ H, H = s.heap := ⟨_, rfl⟩
  obtain ⟨locs, hlocs⟩ : ∃ L : List Loc, L = [] := ⟨_, rfl⟩
  rw [show W p l e (roR 20 591) s m args below meth c s.heap [] 0 0 Q (F0 m 0 ls []) = W p l e (roR 20 591) s m args below meth c H locs 0 0 Q (F0 m 0 ls []) by rw [hH, hlocs]]
  replace hS : va_S A s.heap H locs := by rw [hH, hlocs]; exact hS
  replace hP : va_P D vwCl (w_OE cI cJ cZ cS oe_A oe_kept_A oe_standing_A pa_A pa_signs_A sc_A sh_A sh_looks_A sh_openBits_A bl_A bl_settings_A od_A od_quarters_A st_A st_talls_A st_pairs_A hw_A hw_cutsFrom_A hw_chosen_A pw_A pw_leaves_A pw_first_A oe_kept oe_standing pa_signs pa_count sc_people sc_bride sh_count sh_hands sh_looks sh_openBits bl_flash bl_settings od_tired od_quarters st_rows st_columns st_rise st_talls st_pairs st_changed hw_cutsFrom hw_chosen pw_leaves pw_first pw_people pw_count) H := by rw [hH]; exact hP
  clear hH hlocs
  refine lv_aload_n (pc := 0) hx hb dX8_placed_0 rfl (lv_at hl 0 rfl) ?_
  refine va_get (pc := 1) (D := D) (ci := 8) (v := .ref sc_A) (C := RX8) (T := TX8) (N := 6) hx hb hts inG8 hown hK hP 0 rfl rfl 1 (by decide) (hts _ tw_195) (fun _ h9 => h9) rfl dX8_placed_1 ?_
  refine va_getN (pc := 4) (D := D) (ci := 5) (v := .int sc_people) (C := RX5) (T := TX5) (N := 6) hx hb hts inG5 hown hK hP 5 rfl rfl 0 (by decide) (va_Nw.use rfl (hN _ tn_13)) (fun _ h9 => h9) rfl dX8_placed_4 ?_
  refine lv_aload_n (pc := 7) hx hb dX8_placed_7 rfl (lv_at hl 0 rfl) ?_
  refine va_get (pc := 8) (D := D) (ci := 8) (v := .ref sc_A) (C := RX8) (T := TX8) (N := 6) hx hb hts inG8 hown hK hP 0 rfl rfl 1 (by decide) (hts _ tw_195) (fun _ h9 => h9) rfl dX8_placed_8 ?_
  refine va_getN (pc := 11) (D := D) (ci := 5) (v := .ref st_A) (C := RX5) (T := TX5) (N := 6) hx hb hts inG5 hown hK hP 5 rfl rfl 5 (by decide) (va_Nw.use rfl (hN _ tn_18)) (fun _ h9 => h9) rfl dX8_placed_11 ?_
  obtain ⟨v1, hv14, hf⟩ := bd_e hf
  refine ro_Vi (pc := 14) (As := []) (rest := [.int sc_people]) E (c_X7_places l D cI cJ cZ cS st_A st_talls_A st_pairs_A st_rows st_columns st_rise st_talls st_pairs st_changed v1 hv14) F_X7_places rfl rfl tw_286 tw_287 tw_288 (hP.subm [13, 14, 15] rfl) ⟨by decide, by decide⟩ rfl hl.1 (Nat.le_of_ble_eq_true rfl) ⟨by decide, by decide⟩ rfl dX8_placed_14 ?_
  refine r_ic_le (pc := 17) (tgt := 23) hx hb dX8_placed_17 (by decide) hf (fun hf => ?_) (fun hf => ?_)
  · refine lv_iload_n (pc := 23) hx hb dX8_placed_23 rfl (lv_at hl 1 rfl) ?_
    refine lv_iconst (pc := 24) (v := (-1 : Int32)) hx hb dX8_placed_24 (by decide) ?_
    obtain ⟨k2, hk2, hf⟩ := lc0_e hf
    have K2 : ∀  (H : Heap) (locs : List Loc) (ls : Array Slot), k2 = some (r, r_st_changed, r_pw_people, r_pw_count, r_pw_leaves, r_pw_first) → va_P D vwCl (w_OE cI cJ cZ cS oe_A oe_kept_A oe_standing_A pa_A pa_signs_A sc_A sh_A sh_looks_A sh_openBits_A bl_A bl_settings_A od_A od_quarters_A st_A st_talls_A st_pairs_A hw_A hw_cutsFrom_A hw_chosen_A pw_A pw_leaves_A pw_first_A oe_kept oe_standing pa_signs pa_count sc_people sc_bride sh_count sh_hands sh_looks sh_openBits bl_flash bl_settings od_tired od_quarters st_rows st_columns st_rise st_talls st_pairs st_changed hw_cutsFrom hw_chosen pw_leaves pw_first pw_people pw_count) H → va_D A (w_OE cI cJ cZ cS oe_A oe_kept_A oe_standing_A pa_A pa_signs_A sc_A sh_A sh_looks_A sh_openBits_A bl_A bl_settings_A od_A od_quarters_A st_A st_talls_A st_pairs_A hw_A hw_cutsFrom_A hw_chosen_A pw_A pw_leaves_A pw_first_A oe_kept oe_standing pa_signs pa_count sc_people sc_bride sh_count sh_hands sh_looks sh_openBits bl_flash bl_settings od_tired od_quarters st_rows st_columns st_rise st_talls st_pairs st_changed hw_cutsFrom hw_chosen pw_leaves pw_first pw_people pw_count) → va_S A s.heap H locs → lv_has ls 2 [(0, .ref oe_A), (1, .int p1)] → W p l e (roR 20 591) s m args below meth c H locs 0 0 Q (F0 m 42 ls []) := by
      intro  H locs ls hf hP hD hS hl
      rw [hk2] at hf
      refine lv_aload_n (pc := 42) hx hb dX8_placed_42 rfl (lv_at hl 0 rfl) ?_
      refine va_get (pc := 43) (D := D) (ci := 8) (v := .ref pw_A) (C := RX8) (T := TX8) (N := 6) hx hb hts inG8 hown hK hP 0 rfl rfl 4 (by decide) (hts _ tw_198) (fun _ h9 => h9) rfl dX8_placed_43 ?_
      refine lv_aload_n (pc := 46) hx hb dX8_placed_46 rfl (lv_at hl 0 rfl) ?_
      refine va_get (pc := 47) (D := D) (ci := 8) (v := .ref sc_A) (C := RX8) (T := TX8) (N := 6) hx hb hts inG8 hown hK hP 0 rfl rfl 1 (by decide) (hts _ tw_195) (fun _ h9 => h9) rfl dX8_placed_47 ?_
      refine va_getN (pc := 50) (D := D) (ci := 5) (v := .ref st_A) (C := RX5) (T := TX5) (N := 6) hx hb hts inG5 hown hK hP 5 rfl rfl 5 (by decide) (va_Nw.use rfl (hN _ tn_18)) (fun _ h9 => h9) rfl dX8_placed_50 ?_
      refine lv_aload_n (pc := 53) hx hb dX8_placed_53 rfl (lv_at hl 0 rfl) ?_
      refine va_get (pc := 54) (D := D) (ci := 8) (v := .ref sc_A) (C := RX8) (T := TX8) (N := 6) hx hb hts inG8 hown hK hP 0 rfl rfl 1 (by decide) (hts _ tw_195) (fun _ h9 => h9) rfl dX8_placed_54 ?_
      refine va_getN (pc := 57) (D := D) (ci := 5) (v := .int sc_people) (C := RX5) (T := TX5) (N := 6) hx hb hts inG5 hown hK hP 5 rfl rfl 0 (by decide) (va_Nw.use rfl (hN _ tn_13)) (fun _ h9 => h9) rfl dX8_placed_57 ?_
      obtain ⟨⟨pw_people_4, pw_count_5, pw_leaves_6, pw_first_7, st_changed_8⟩, hv60, hf⟩ := bd_e hf
      refine rw_Vv (pc := 60) (As := [.ref st_A, .int sc_people]) (rest := []) (wr := [(oe_A, .inr (8, [.ref pa_A, .ref sc_A, .ref oe_kept_A, .ref hw_A, .ref pw_A, .ref oe_standing_A])), (oe_kept_A, .inl (cS, 2, .inr (.inr (.inr (.inr oe_kept))))), (oe_standing_A, .inl (cI, 8, .inl oe_standing)), (pa_A, .inr (3, [.ref pa_signs_A, .int pa_count])), (pa_signs_A, .inl (cI, 40, .inl pa_signs)), (sc_A, .inr (5, [.int sc_people, .int sc_bride, .ref sh_A, .ref bl_A, .ref od_A, .ref st_A])), (sh_A, .inr (6, [.int sh_count, .int sh_hands, .ref sh_looks_A, .ref sh_openBits_A])), (sh_looks_A, .inl (cI, 80, .inl sh_looks)), (sh_openBits_A, .inl (cI, 10, .inl sh_openBits)), (bl_A, .inr (0, [.int bl_flash, .ref bl_settings_A])), (bl_settings_A, .inl (cI, 24, .inl bl_settings)), (od_A, .inr (2, [.int od_tired, .ref od_quarters_A])), (od_quarters_A, .inl (cI, 8, .inl od_quarters)), (hw_A, .inr (1, [.ref hw_cutsFrom_A, .ref hw_chosen_A])), (hw_cutsFrom_A, .inl (cI, 80, .inl hw_cutsFrom)), (hw_chosen_A, .inl (cI, 8, .inl hw_chosen))]) (wn := (w_OE cI cJ cZ cS oe_A oe_kept_A oe_standing_A pa_A pa_signs_A sc_A sh_A sh_looks_A sh_openBits_A bl_A bl_settings_A od_A od_quarters_A st_A st_talls_A st_pairs_A hw_A hw_cutsFrom_A hw_chosen_A pw_A pw_leaves_A pw_first_A oe_kept oe_standing pa_signs pa_count sc_people sc_bride sh_count sh_hands sh_looks sh_openBits bl_flash bl_settings od_tired od_quarters st_rows st_columns st_rise st_talls st_pairs st_changed_8 hw_cutsFrom hw_chosen pw_leaves_6 pw_first_7 pw_people_4 pw_count_5)) E (c_X4_solve l D cI cJ cZ cS N pw_A pw_leaves_A pw_first_A st_A st_talls_A st_pairs_A pw_leaves pw_first pw_people pw_count st_rows st_columns st_rise st_talls st_pairs st_changed sc_people H.size pw_people_4 pw_count_5 pw_leaves_6 pw_first_7 st_changed_8 hv60) F_X4_solve rfl rfl tw_622 tw_623 tw_624 hP hD hS hA [19, 20, 21, 13, 14, 15] [0, 1, 2, 3, 4, 5, 6, 7, 8, 9, 10, 11, 12, 16, 17, 18] [0, 1, 2, 3, 4, 5, 6, 7, 8, 9, 10, 11, 12, 19, 20, 21, 13, 14, 15, 16, 17, 18] rfl rfl (by decide) (by decide) (by decide) rfl (by decide) ⟨by decide, by decide⟩ rfl hl.1 (Nat.le_of_ble_eq_true rfl) ⟨by decide, by decide⟩ rfl dX8_placed_60 (fun H locs hP hD hS => ?_)
      refine lv_iload_n (pc := 63) hx hb dX8_placed_63 rfl (lv_at hl 1 rfl) ?_
      refine lv_iconst (pc := 64) (v := (-1 : Int32)) hx hb dX8_placed_64 (by decide) ?_
      refine r_ic_ne (pc := 65) (tgt := 78) hx hb dX8_placed_65 (by decide) hf (fun hf => ?_) (fun hf => ?_)
      · refine lv_aload_n (pc := 78) hx hb dX8_placed_78 rfl (lv_at hl 0 rfl) ?_
        refine va_get (pc := 79) (D := D) (ci := 8) (v := .ref pw_A) (C := RX8) (T := TX8) (N := 6) hx hb hts inG8 hown hK hP 0 rfl rfl 4 (by decide) (hts _ tw_198) (fun _ h9 => h9) rfl dX8_placed_79 ?_
        refine lv_iload_n (pc := 82) hx hb dX8_placed_82 rfl (lv_at hl 1 rfl) ?_
        obtain ⟨v9, hv83, hf⟩ := bd_e hf
        refine ro_Vi (pc := 83) (As := [.int p1]) (rest := []) E (c_X4_firstOf l D cI cJ cZ cS pw_A pw_leaves_A pw_first_A pw_leaves_6 pw_first_7 pw_people_4 pw_count_5 p1 v9 hv83) F_X4_firstOf rfl rfl tw_651 tw_652 tw_653 (hP.subm [19, 20, 21] rfl) ⟨by decide, by decide⟩ rfl hl.1 (Nat.le_of_ble_eq_true rfl) ⟨by decide, by decide⟩ rfl dX8_placed_83 ?_
        cases hf
        exact hQ _ _ _ _ _ dX8_placed_86 rfl hP hD hS
      · refine lv_aload_n (pc := 68) hx hb dX8_placed_68 rfl (lv_at hl 0 rfl) ?_
        refine va_get (pc := 69) (D := D) (ci := 8) (v := .ref pw_A) (C := RX8) (T := TX8) (N := 6) hx hb hts inG8 hown hK hP 0 rfl rfl 4 (by decide) (hts _ tw_198) (fun _ h9 => h9) rfl dX8_placed_69 ?_
        refine va_getN (pc := 72) (D := D) (ci := 4) (v := .int pw_count_5) (C := RX4) (T := TX4) (N := 4) hx hb hts inG4 hown hK hP 19 rfl rfl 3 (by decide) (va_Nw.use rfl (hN _ tn_21)) (fun _ h9 => h9) rfl dX8_placed_72 ?_
        refine lv_goto (pc := 75) (tgt := 86) hx hb dX8_placed_75 (by decide) ?_
        cases hf
        exact hQ _ _ _ _ _ dX8_placed_86 rfl hP hD hS
    refine r_ic_eq (pc := 25) (tgt := 42) hx hb dX8_placed_25 (by decide) hf (fun hf => ?_) (fun hf => ?_)
    · exact K2  _ _ _ hf hP hD hS hl
    · refine lv_aload_n (pc := 28) hx hb dX8_placed_28 rfl (lv_at hl 0 rfl) ?_
      refine va_get (pc := 29) (D := D) (ci := 8) (v := .ref sc_A) (C := RX8) (T := TX8) (N := 6) hx hb hts inG8 hown hK hP 0 rfl rfl 1 (by decide) (hts _ tw_195) (fun _ h9 => h9) rfl dX8_placed_29 ?_
      refine lv_iload_n (pc := 32) hx hb dX8_placed_32 rfl (lv_at hl 1 rfl) ?_
      obtain ⟨v3, hv33, hf⟩ := bd_e hf
      refine ro_Vi (pc := 33) (As := [.int p1]) (rest := []) E (c_X5_has l D cI cJ cZ cS sc_A sh_A bl_A od_A st_A sc_people sc_bride p1 v3 hv33) F_X5_has rfl rfl tw_235 tw_236 tw_237 (hP.subm [5] rfl) ⟨by decide, by decide⟩ rfl hl.1 (Nat.le_of_ble_eq_true rfl) ⟨by decide, by decide⟩ rfl dX8_placed_33 ?_
      refine r_if_ne (pc := 36) (tgt := 42) hx hb dX8_placed_36 (by decide) hf (fun hf => ?_) (fun hf => ?_)
      · exact K2  _ _ _ hf hP hD hS hl
      · refine lv_bipush (pc := 39) (v := (-6 : Int32)) hx hb dX8_placed_39 (by decide) ?_
        cases hf
        exact hQ _ _ _ _ _ dX8_placed_41 rfl hP hD hS
  · refine lv_bipush (pc := 20) (v := (-3 : Int32)) hx hb dX8_placed_20 (by decide) ?_
    cases hf
    exact hQ _ _ _ _ _ dX8_placed_22 rfl hP hD hS
theorem F_X8_told : CalF yX8_told cX8_told 2 (some .int) 1 := ⟨tw_692, tw_1, by decide +kernel⟩
set_option maxRecDepth 100000 in
set_option maxHeartbeats 4000000 in
theorem c_X8_told (l : Launch) (D : va_G) (cI cJ cZ cS : ClassId) (oe_A oe_kept_A oe_standing_A pa_A pa_signs_A sc_A sh_A sh_looks_A sh_openBits_A bl_A bl_settings_A od_A od_quarters_A st_A st_talls_A st_pairs_A hw_A hw_cutsFrom_A hw_chosen_A pw_A pw_leaves_A pw_first_A : Nat) (oe_kept : Nat → Option Nat) (oe_standing : Nat → Int32) (pa_signs : Nat → Int32) (pa_count : Int32) (sc_people : Int32) (sc_bride : Int32) (sh_count : Int32) (sh_hands : Int32) (sh_looks : Nat → Int32) (sh_openBits : Nat → Int32) (bl_flash : Int32) (bl_settings : Nat → Int32) (od_tired : Int32) (od_quarters : Nat → Int32) (st_rows : Int32) (st_columns : Int32) (st_rise : Int32) (st_talls : Nat → Int32) (st_pairs : Nat → Int32) (st_changed : Int32) (hw_cutsFrom : Nat → Int32) (hw_chosen : Nat → Int32) (pw_leaves : Nat → Int64) (pw_first : Nat → Int32) (pw_people : Int32) (pw_count : Int32) (p1 : Int32) (r : Int32) (hf : f_X8_told pa_count sc_people sc_bride sh_count sh_hands bl_flash od_tired od_quarters st_rows st_columns st_rise st_talls p1 = some r) : RoC l D cI cJ cZ cS yX8_told cX8_told 2 (some .int) 1 21 (w_OE cI cJ cZ cS oe_A oe_kept_A oe_standing_A pa_A pa_signs_A sc_A sh_A sh_looks_A sh_openBits_A bl_A bl_settings_A od_A od_quarters_A st_A st_talls_A st_pairs_A hw_A hw_cutsFrom_A hw_chosen_A pw_A pw_leaves_A pw_first_A oe_kept oe_standing pa_signs pa_count sc_people sc_bride sh_count sh_hands sh_looks sh_openBits bl_flash bl_settings od_tired od_quarters st_rows st_columns st_rise st_talls st_pairs st_changed hw_cutsFrom hw_chosen pw_leaves pw_first pw_people pw_count) [.ref oe_A, .int p1] (some (.int r)) := by
  refine ro_in_i (own := RX8) (by decide +kernel) rfl (Nat.le_of_ble_eq_true rfl) ?_
  intro p e s m args below meth c ls Q E hQ hP hl
  obtain ⟨hx, hb, hml, hown, hts, hK, hN, hAO⟩ := id E
  have hl : lv_has ls 2 [(0, .ref oe_A), (1, .int p1)] := hl
  unfold f_X8_told at hf
  refine lv_aload_n (pc := 0) hx hb dX8_told_0 rfl (lv_at hl 0 rfl) ?_
  refine va_get (pc := 1) (D := D) (ci := 8) (v := .ref sc_A) (C := RX8) (T := TX8) (N := 6) hx hb hts inG8 hown hK hP 0 rfl rfl 1 (by decide) (hts _ tw_195) (fun _ h9 => h9) rfl dX8_told_1 ?_
  refine lv_iload_n (pc := 4) hx hb dX8_told_4 rfl (lv_at hl 1 rfl) ?_
  refine lv_bipush (pc := 5) (v := (10 : Int32)) hx hb dX8_told_5 (by decide) ?_
  refine lv_isub (pc := 7) hx hb dX8_told_7 ?_
  obtain ⟨v1, hv8, hf⟩ := bd_e hf
  refine ro_Vi (pc := 8) (As := [.int (p1 - (10 : Int32))]) (rest := []) E (c_X5_has l D cI cJ cZ cS sc_A sh_A bl_A od_A st_A sc_people sc_bride (p1 - (10 : Int32)) v1 hv8) F_X5_has rfl rfl tw_235 tw_236 tw_237 (hP.subm [5] rfl) ⟨by decide, by decide⟩ rfl hl.1 (Nat.le_of_ble_eq_true rfl) ⟨by decide, by decide⟩ rfl dX8_told_8 ?_
  refine r_if_eq (pc := 11) (tgt := 29) hx hb dX8_told_11 (by decide) hf (fun hf => ?_) (fun hf => ?_)
  · refine lv_aload_n (pc := 29) hx hb dX8_told_29 rfl (lv_at hl 0 rfl) ?_
    refine va_get (pc := 30) (D := D) (ci := 8) (v := .ref sc_A) (C := RX8) (T := TX8) (N := 6) hx hb hts inG8 hown hK hP 0 rfl rfl 1 (by decide) (hts _ tw_195) (fun _ h9 => h9) rfl dX8_told_30 ?_
    refine lv_iload_n (pc := 33) hx hb dX8_told_33 rfl (lv_at hl 1 rfl) ?_
    refine lv_bipush (pc := 34) (v := (20 : Int32)) hx hb dX8_told_34 (by decide) ?_
    refine lv_isub (pc := 36) hx hb dX8_told_36 ?_
    obtain ⟨v2, hv37, hf⟩ := bd_e hf
    refine ro_Vi (pc := 37) (As := [.int (p1 - (20 : Int32))]) (rest := []) E (c_X5_has l D cI cJ cZ cS sc_A sh_A bl_A od_A st_A sc_people sc_bride (p1 - (20 : Int32)) v2 hv37) F_X5_has rfl rfl tw_235 tw_236 tw_237 (hP.subm [5] rfl) ⟨by decide, by decide⟩ rfl hl.1 (Nat.le_of_ble_eq_true rfl) ⟨by decide, by decide⟩ rfl dX8_told_37 ?_
    refine r_if_eq (pc := 40) (tgt := 58) hx hb dX8_told_40 (by decide) hf (fun hf => ?_) (fun hf => ?_)
    · refine lv_iload_n (pc := 58) hx hb dX8_told_58 rfl (lv_at hl 1 rfl) ?_
      by_cases cs59_0 : p1 = (0 : Int32)
      · rw [if_pos cs59_0] at hf
        refine lv_tableIn (pc := 59) (off := 53) (tgt := 112) hx hb dX8_told_59 (by rw [cs59_0]; decide) (by rw [cs59_0]; decide) (by rw [cs59_0]; decide) (by decide) ?_
        refine lv_aload_n (pc := 112) hx hb dX8_told_112 rfl (lv_at hl 0 rfl) ?_
        refine va_get (pc := 113) (D := D) (ci := 8) (v := .ref pa_A) (C := RX8) (T := TX8) (N := 6) hx hb hts inG8 hown hK hP 0 rfl rfl 0 (by decide) (hts _ tw_194) (fun _ h9 => h9) rfl dX8_told_113 ?_
        refine va_getN (pc := 116) (D := D) (ci := 3) (v := .int pa_count) (C := RX3) (T := TX3) (N := 2) hx hb hts inG3 hown hK hP 3 rfl rfl 1 (by decide) (va_Nw.use rfl (hN _ tn_1)) (fun _ h9 => h9) rfl dX8_told_116 ?_
        exact hQ _ _ _ dX8_told_119 hf
      rw [if_neg cs59_0] at hf
      by_cases cs59_1 : p1 = (1 : Int32)
      · rw [if_pos cs59_1] at hf
        refine lv_tableIn (pc := 59) (off := 61) (tgt := 120) hx hb dX8_told_59 (by rw [cs59_1]; decide) (by rw [cs59_1]; decide) (by rw [cs59_1]; decide) (by decide) ?_
        refine lv_aload_n (pc := 120) hx hb dX8_told_120 rfl (lv_at hl 0 rfl) ?_
        refine va_get (pc := 121) (D := D) (ci := 8) (v := .ref sc_A) (C := RX8) (T := TX8) (N := 6) hx hb hts inG8 hown hK hP 0 rfl rfl 1 (by decide) (hts _ tw_195) (fun _ h9 => h9) rfl dX8_told_121 ?_
        refine va_getN (pc := 124) (D := D) (ci := 5) (v := .int sc_people) (C := RX5) (T := TX5) (N := 6) hx hb hts inG5 hown hK hP 5 rfl rfl 0 (by decide) (va_Nw.use rfl (hN _ tn_13)) (fun _ h9 => h9) rfl dX8_told_124 ?_
        exact hQ _ _ _ dX8_told_127 hf
      rw [if_neg cs59_1] at hf
      by_cases cs59_2 : p1 = (2 : Int32)
      · rw [if_pos cs59_2] at hf
        refine lv_tableIn (pc := 59) (off := 69) (tgt := 128) hx hb dX8_told_59 (by rw [cs59_2]; decide) (by rw [cs59_2]; decide) (by rw [cs59_2]; decide) (by decide) ?_
        refine lv_aload_n (pc := 128) hx hb dX8_told_128 rfl (lv_at hl 0 rfl) ?_
        refine va_get (pc := 129) (D := D) (ci := 8) (v := .ref sc_A) (C := RX8) (T := TX8) (N := 6) hx hb hts inG8 hown hK hP 0 rfl rfl 1 (by decide) (hts _ tw_195) (fun _ h9 => h9) rfl dX8_told_129 ?_
        refine va_getN (pc := 132) (D := D) (ci := 5) (v := .ref sh_A) (C := RX5) (T := TX5) (N := 6) hx hb hts inG5 hown hK hP 5 rfl rfl 2 (by decide) (va_Nw.use rfl (hN _ tn_15)) (fun _ h9 => h9) rfl dX8_told_132 ?_
        refine va_getN (pc := 135) (D := D) (ci := 6) (v := .int sh_count) (C := RX6) (T := TX6) (N := 4) hx hb hts inG6 hown hK hP 6 rfl rfl 0 (by decide) (va_Nw.use rfl (hN _ tn_5)) (fun _ h9 => h9) rfl dX8_told_135 ?_
        exact hQ _ _ _ dX8_told_138 hf
      rw [if_neg cs59_2] at hf
      by_cases cs59_3 : p1 = (3 : Int32)
      · rw [if_pos cs59_3] at hf
        refine lv_tableIn (pc := 59) (off := 80) (tgt := 139) hx hb dX8_told_59 (by rw [cs59_3]; decide) (by rw [cs59_3]; decide) (by rw [cs59_3]; decide) (by decide) ?_
        refine lv_aload_n (pc := 139) hx hb dX8_told_139 rfl (lv_at hl 0 rfl) ?_
        refine va_get (pc := 140) (D := D) (ci := 8) (v := .ref sc_A) (C := RX8) (T := TX8) (N := 6) hx hb hts inG8 hown hK hP 0 rfl rfl 1 (by decide) (hts _ tw_195) (fun _ h9 => h9) rfl dX8_told_140 ?_
        refine va_getN (pc := 143) (D := D) (ci := 5) (v := .int sc_bride) (C := RX5) (T := TX5) (N := 6) hx hb hts inG5 hown hK hP 5 rfl rfl 1 (by decide) (va_Nw.use rfl (hN _ tn_14)) (fun _ h9 => h9) rfl dX8_told_143 ?_
        exact hQ _ _ _ dX8_told_146 hf
      rw [if_neg cs59_3] at hf
      by_cases cs59_4 : p1 = (4 : Int32)
      · rw [if_pos cs59_4] at hf
        refine lv_tableIn (pc := 59) (off := 88) (tgt := 147) hx hb dX8_told_59 (by rw [cs59_4]; decide) (by rw [cs59_4]; decide) (by rw [cs59_4]; decide) (by decide) ?_
        refine lv_aload_n (pc := 147) hx hb dX8_told_147 rfl (lv_at hl 0 rfl) ?_
        refine va_get (pc := 148) (D := D) (ci := 8) (v := .ref sc_A) (C := RX8) (T := TX8) (N := 6) hx hb hts inG8 hown hK hP 0 rfl rfl 1 (by decide) (hts _ tw_195) (fun _ h9 => h9) rfl dX8_told_148 ?_
        refine va_getN (pc := 151) (D := D) (ci := 5) (v := .ref sh_A) (C := RX5) (T := TX5) (N := 6) hx hb hts inG5 hown hK hP 5 rfl rfl 2 (by decide) (va_Nw.use rfl (hN _ tn_15)) (fun _ h9 => h9) rfl dX8_told_151 ?_
        refine va_getN (pc := 154) (D := D) (ci := 6) (v := .int sh_hands) (C := RX6) (T := TX6) (N := 4) hx hb hts inG6 hown hK hP 6 rfl rfl 1 (by decide) (va_Nw.use rfl (hN _ tn_6)) (fun _ h9 => h9) rfl dX8_told_154 ?_
        exact hQ _ _ _ dX8_told_157 hf
      rw [if_neg cs59_4] at hf
      by_cases cs59_5 : p1 = (5 : Int32)
      · rw [if_pos cs59_5] at hf
        refine lv_tableIn (pc := 59) (off := 99) (tgt := 158) hx hb dX8_told_59 (by rw [cs59_5]; decide) (by rw [cs59_5]; decide) (by rw [cs59_5]; decide) (by decide) ?_
        refine lv_aload_n (pc := 158) hx hb dX8_told_158 rfl (lv_at hl 0 rfl) ?_
        refine va_get (pc := 159) (D := D) (ci := 8) (v := .ref sc_A) (C := RX8) (T := TX8) (N := 6) hx hb hts inG8 hown hK hP 0 rfl rfl 1 (by decide) (hts _ tw_195) (fun _ h9 => h9) rfl dX8_told_159 ?_
        refine va_getN (pc := 162) (D := D) (ci := 5) (v := .ref bl_A) (C := RX5) (T := TX5) (N := 6) hx hb hts inG5 hown hK hP 5 rfl rfl 3 (by decide) (va_Nw.use rfl (hN _ tn_16)) (fun _ h9 => h9) rfl dX8_told_162 ?_
        refine va_getN (pc := 165) (D := D) (ci := 0) (v := .int bl_flash) (C := RX0) (T := TX0) (N := 2) hx hb hts inG0 hown hK hP 9 rfl rfl 0 (by decide) (va_Nw.use rfl (hN _ tn_7)) (fun _ h9 => h9) rfl dX8_told_165 ?_
        exact hQ _ _ _ dX8_told_168 hf
      rw [if_neg cs59_5] at hf
      by_cases cs59_6 : p1 = (6 : Int32)
      · rw [if_pos cs59_6] at hf
        refine lv_tableIn (pc := 59) (off := 110) (tgt := 169) hx hb dX8_told_59 (by rw [cs59_6]; decide) (by rw [cs59_6]; decide) (by rw [cs59_6]; decide) (by decide) ?_
        refine lv_aload_n (pc := 169) hx hb dX8_told_169 rfl (lv_at hl 0 rfl) ?_
        refine va_get (pc := 170) (D := D) (ci := 8) (v := .ref sc_A) (C := RX8) (T := TX8) (N := 6) hx hb hts inG8 hown hK hP 0 rfl rfl 1 (by decide) (hts _ tw_195) (fun _ h9 => h9) rfl dX8_told_170 ?_
        refine va_getN (pc := 173) (D := D) (ci := 5) (v := .ref od_A) (C := RX5) (T := TX5) (N := 6) hx hb hts inG5 hown hK hP 5 rfl rfl 4 (by decide) (va_Nw.use rfl (hN _ tn_17)) (fun _ h9 => h9) rfl dX8_told_173 ?_
        refine va_getN (pc := 176) (D := D) (ci := 2) (v := .int od_tired) (C := RX2) (T := TX2) (N := 2) hx hb hts inG2 hown hK hP 11 rfl rfl 0 (by decide) (va_Nw.use rfl (hN _ tn_8)) (fun _ h9 => h9) rfl dX8_told_176 ?_
        exact hQ _ _ _ dX8_told_179 hf
      rw [if_neg cs59_6] at hf
      by_cases cs59_7 : p1 = (7 : Int32)
      · rw [if_pos cs59_7] at hf
        refine lv_tableIn (pc := 59) (off := 121) (tgt := 180) hx hb dX8_told_59 (by rw [cs59_7]; decide) (by rw [cs59_7]; decide) (by rw [cs59_7]; decide) (by decide) ?_
        refine lv_aload_n (pc := 180) hx hb dX8_told_180 rfl (lv_at hl 0 rfl) ?_
        refine va_get (pc := 181) (D := D) (ci := 8) (v := .ref sc_A) (C := RX8) (T := TX8) (N := 6) hx hb hts inG8 hown hK hP 0 rfl rfl 1 (by decide) (hts _ tw_195) (fun _ h9 => h9) rfl dX8_told_181 ?_
        refine va_getN (pc := 184) (D := D) (ci := 5) (v := .ref st_A) (C := RX5) (T := TX5) (N := 6) hx hb hts inG5 hown hK hP 5 rfl rfl 5 (by decide) (va_Nw.use rfl (hN _ tn_18)) (fun _ h9 => h9) rfl dX8_told_184 ?_
        refine va_getN (pc := 187) (D := D) (ci := 7) (v := .int st_rows) (C := RX7) (T := TX7) (N := 6) hx hb hts inG7 hown hK hP 13 rfl rfl 0 (by decide) (va_Nw.use rfl (hN _ tn_9)) (fun _ h9 => h9) rfl dX8_told_187 ?_
        exact hQ _ _ _ dX8_told_190 hf
      rw [if_neg cs59_7] at hf
      by_cases cs59_8 : p1 = (8 : Int32)
      · rw [if_pos cs59_8] at hf
        refine lv_tableIn (pc := 59) (off := 132) (tgt := 191) hx hb dX8_told_59 (by rw [cs59_8]; decide) (by rw [cs59_8]; decide) (by rw [cs59_8]; decide) (by decide) ?_
        refine lv_aload_n (pc := 191) hx hb dX8_told_191 rfl (lv_at hl 0 rfl) ?_
        refine va_get (pc := 192) (D := D) (ci := 8) (v := .ref sc_A) (C := RX8) (T := TX8) (N := 6) hx hb hts inG8 hown hK hP 0 rfl rfl 1 (by decide) (hts _ tw_195) (fun _ h9 => h9) rfl dX8_told_192 ?_
        refine va_getN (pc := 195) (D := D) (ci := 5) (v := .ref st_A) (C := RX5) (T := TX5) (N := 6) hx hb hts inG5 hown hK hP 5 rfl rfl 5 (by decide) (va_Nw.use rfl (hN _ tn_18)) (fun _ h9 => h9) rfl dX8_told_195 ?_
        refine va_getN (pc := 198) (D := D) (ci := 7) (v := .int st_columns) (C := RX7) (T := TX7) (N := 6) hx hb hts inG7 hown hK hP 13 rfl rfl 1 (by decide) (va_Nw.use rfl (hN _ tn_10)) (fun _ h9 => h9) rfl dX8_told_198 ?_
        exact hQ _ _ _ dX8_told_201 hf
      rw [if_neg cs59_8] at hf
      by_cases cs59_9 : p1 = (9 : Int32)
      · rw [if_pos cs59_9] at hf
        refine lv_tableIn (pc := 59) (off := 143) (tgt := 202) hx hb dX8_told_59 (by rw [cs59_9]; decide) (by rw [cs59_9]; decide) (by rw [cs59_9]; decide) (by decide) ?_
        refine lv_aload_n (pc := 202) hx hb dX8_told_202 rfl (lv_at hl 0 rfl) ?_
        refine va_get (pc := 203) (D := D) (ci := 8) (v := .ref sc_A) (C := RX8) (T := TX8) (N := 6) hx hb hts inG8 hown hK hP 0 rfl rfl 1 (by decide) (hts _ tw_195) (fun _ h9 => h9) rfl dX8_told_203 ?_
        refine va_getN (pc := 206) (D := D) (ci := 5) (v := .ref st_A) (C := RX5) (T := TX5) (N := 6) hx hb hts inG5 hown hK hP 5 rfl rfl 5 (by decide) (va_Nw.use rfl (hN _ tn_18)) (fun _ h9 => h9) rfl dX8_told_206 ?_
        refine va_getN (pc := 209) (D := D) (ci := 7) (v := .int st_rise) (C := RX7) (T := TX7) (N := 6) hx hb hts inG7 hown hK hP 13 rfl rfl 2 (by decide) (va_Nw.use rfl (hN _ tn_11)) (fun _ h9 => h9) rfl dX8_told_209 ?_
        exact hQ _ _ _ dX8_told_212 hf
      rw [if_neg cs59_9] at hf
      refine lv_tableOut (pc := 59) (tgt := 213) hx hb dX8_told_59 (tab_out10 cs59_0 cs59_1 cs59_2 cs59_3 cs59_4 cs59_5 cs59_6 cs59_7 cs59_8 cs59_9) (by decide) ?_
      refine lv_bipush (pc := 213) (v := (-2 : Int32)) hx hb dX8_told_213 (by decide) ?_
      exact hQ _ _ _ dX8_told_215 hf
    · refine lv_aload_n (pc := 43) hx hb dX8_told_43 rfl (lv_at hl 0 rfl) ?_
      refine va_get (pc := 44) (D := D) (ci := 8) (v := .ref sc_A) (C := RX8) (T := TX8) (N := 6) hx hb hts inG8 hown hK hP 0 rfl rfl 1 (by decide) (hts _ tw_195) (fun _ h9 => h9) rfl dX8_told_44 ?_
      refine va_getN (pc := 47) (D := D) (ci := 5) (v := .ref od_A) (C := RX5) (T := TX5) (N := 6) hx hb hts inG5 hown hK hP 5 rfl rfl 4 (by decide) (va_Nw.use rfl (hN _ tn_17)) (fun _ h9 => h9) rfl dX8_told_47 ?_
      refine lv_iload_n (pc := 50) hx hb dX8_told_50 rfl (lv_at hl 1 rfl) ?_
      refine lv_bipush (pc := 51) (v := (20 : Int32)) hx hb dX8_told_51 (by decide) ?_
      refine lv_isub (pc := 53) hx hb dX8_told_53 ?_
      obtain ⟨v3, hv54, hf⟩ := bd_e hf
      refine ro_Vi (pc := 54) (As := [.int (p1 - (20 : Int32))]) (rest := []) E (c_X2_quartersOf l D cI cJ cZ cS od_A od_quarters_A od_tired od_quarters (p1 - (20 : Int32)) v3 hv54) F_X2_quartersOf rfl rfl tw_697 tw_698 tw_699 (hP.subm [11, 12] rfl) ⟨by decide, by decide⟩ rfl hl.1 (Nat.le_of_ble_eq_true rfl) ⟨by decide, by decide⟩ rfl dX8_told_54 ?_
      exact hQ _ _ _ dX8_told_57 hf
  · refine lv_aload_n (pc := 14) hx hb dX8_told_14 rfl (lv_at hl 0 rfl) ?_
    refine va_get (pc := 15) (D := D) (ci := 8) (v := .ref sc_A) (C := RX8) (T := TX8) (N := 6) hx hb hts inG8 hown hK hP 0 rfl rfl 1 (by decide) (hts _ tw_195) (fun _ h9 => h9) rfl dX8_told_15 ?_
    refine va_getN (pc := 18) (D := D) (ci := 5) (v := .ref st_A) (C := RX5) (T := TX5) (N := 6) hx hb hts inG5 hown hK hP 5 rfl rfl 5 (by decide) (va_Nw.use rfl (hN _ tn_18)) (fun _ h9 => h9) rfl dX8_told_18 ?_
    refine lv_iload_n (pc := 21) hx hb dX8_told_21 rfl (lv_at hl 1 rfl) ?_
    refine lv_bipush (pc := 22) (v := (10 : Int32)) hx hb dX8_told_22 (by decide) ?_
    refine lv_isub (pc := 24) hx hb dX8_told_24 ?_
    obtain ⟨v4, hv25, hf⟩ := bd_e hf
    refine ro_Vi (pc := 25) (As := [.int (p1 - (10 : Int32))]) (rest := []) E (c_X7_tallOf l D cI cJ cZ cS st_A st_talls_A st_pairs_A st_rows st_columns st_rise st_talls st_pairs st_changed (p1 - (10 : Int32)) v4 hv25) F_X7_tallOf rfl rfl tw_693 tw_694 tw_695 (hP.subm [13, 14, 15] rfl) ⟨by decide, by decide⟩ rfl hl.1 (Nat.le_of_ble_eq_true rfl) ⟨by decide, by decide⟩ rfl dX8_told_25 ?_
    exact hQ _ _ _ dX8_told_28 hf
set_option maxRecDepth 100000 in
set_option maxHeartbeats 4000000 in
theorem c_X8_image_out (l : Launch) (D : va_G) (cI cJ cZ cS : ClassId) (oe_A oe_kept_A oe_standing_A pa_A pa_signs_A sc_A sh_A sh_looks_A sh_openBits_A bl_A bl_settings_A od_A od_quarters_A st_A st_talls_A st_pairs_A hw_A hw_cutsFrom_A hw_chosen_A pw_A pw_leaves_A pw_first_A : Nat) (oe_kept : Nat → Option Nat) (oe_standing : Nat → Int32) (pa_signs : Nat → Int32) (pa_count : Int32) (sc_people : Int32) (sc_bride : Int32) (sh_count : Int32) (sh_hands : Int32) (sh_looks : Nat → Int32) (sh_openBits : Nat → Int32) (bl_flash : Int32) (bl_settings : Nat → Int32) (od_tired : Int32) (od_quarters : Nat → Int32) (st_rows : Int32) (st_columns : Int32) (st_rise : Int32) (st_talls : Nat → Int32) (st_pairs : Nat → Int32) (st_changed : Int32) (hw_cutsFrom : Nat → Int32) (hw_chosen : Nat → Int32) (pw_leaves : Nat → Int64) (pw_first : Nat → Int32) (pw_people : Int32) (pw_count : Int32) (p1 : Int32) (r : Int32) (hf : f_X8_image_out p1 = some r) : RoC l D cI cJ cZ cS yX8_image cX8_image 2 (some .int) 1 22 (w_OE cI cJ cZ cS oe_A oe_kept_A oe_standing_A pa_A pa_signs_A sc_A sh_A sh_looks_A sh_openBits_A bl_A bl_settings_A od_A od_quarters_A st_A st_talls_A st_pairs_A hw_A hw_cutsFrom_A hw_chosen_A pw_A pw_leaves_A pw_first_A oe_kept oe_standing pa_signs pa_count sc_people sc_bride sh_count sh_hands sh_looks sh_openBits bl_flash bl_settings od_tired od_quarters st_rows st_columns st_rise st_talls st_pairs st_changed hw_cutsFrom hw_chosen pw_leaves pw_first pw_people pw_count) [.ref oe_A, .int p1] (some (.int r)) := by
  refine ro_in_i (own := RX8) (by decide +kernel) rfl (Nat.le_of_ble_eq_true rfl) ?_
  intro p e s m args below meth c ls Q E hQ hP hl
  obtain ⟨hx, hb, hml, hown, hts, hK, hN, hAO⟩ := id E
  have hl : lv_has ls 2 [(0, .ref oe_A), (1, .int p1)] := hl
  unfold f_X8_image_out at hf
  refine lv_iload_n (pc := 0) hx hb dX8_image_0 rfl (lv_at hl 1 rfl) ?_
  refine lv_iconst (pc := 1) (v := (0 : Int32)) hx hb dX8_image_1 (by decide) ?_
  refine lv_iconst (pc := 2) (v := (1 : Int32)) hx hb dX8_image_2 (by decide) ?_
  obtain ⟨v1, hv3, hf⟩ := bd_e hf
  refine ro_Si (pc := 3) (As := [.int p1, .int (0 : Int32), .int (1 : Int32)]) (rest := []) E (c_X8_within l D cI cJ cZ cS p1 (0 : Int32) (1 : Int32) v1 hv3) F_X8_within tw_217 tw_218  va_P_nil ⟨by decide, by decide⟩ rfl hl.1 (Nat.le_of_ble_eq_true rfl) ⟨by decide, by decide⟩ rfl dX8_image_3 ?_
  refine r_if_ne (pc := 6) (tgt := 12) hx hb dX8_image_6 (by decide) hf (fun hf => ?_) (fun hf => ?_)
  · cases hf
  · refine lv_bipush (pc := 9) (v := (-2 : Int32)) hx hb dX8_image_9 (by decide) ?_
    exact hQ _ _ _ dX8_image_11 hf
