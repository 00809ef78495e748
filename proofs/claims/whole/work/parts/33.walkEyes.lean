theorem F_X8_bad : CalF yX8_bad cX8_bad 3 (some .int) 2 := ⟨tw_492, tw_1, by decide +kernel⟩
set_option maxRecDepth 100000 in
set_option maxHeartbeats 4000000 in
theorem c_X8_bad (l : Launch) (D : va_G) (cI cJ cZ cS : ClassId) (oe_A oe_kept_A oe_standing_A pa_A pa_signs_A sc_A sh_A sh_looks_A sh_openBits_A bl_A bl_settings_A od_A od_quarters_A st_A st_talls_A st_pairs_A hw_A hw_cutsFrom_A hw_chosen_A pw_A pw_leaves_A pw_first_A : Nat) (oe_kept : Nat → Option Nat) (oe_standing : Nat → Int32) (pa_signs : Nat → Int32) (pa_count : Int32) (sc_people : Int32) (sc_bride : Int32) (sh_count : Int32) (sh_hands : Int32) (sh_looks : Nat → Int32) (sh_openBits : Nat → Int32) (bl_flash : Int32) (bl_settings : Nat → Int32) (od_tired : Int32) (od_quarters : Nat → Int32) (st_rows : Int32) (st_columns : Int32) (st_rise : Int32) (st_talls : Nat → Int32) (st_pairs : Nat → Int32) (st_changed : Int32) (hw_cutsFrom : Nat → Int32) (hw_chosen : Nat → Int32) (pw_leaves : Nat → Int64) (pw_first : Nat → Int32) (pw_people : Int32) (pw_count : Int32) (p1 : Int32) (p2 : Int32) (sz : Nat) (r : Int32) (r_od_tired : Int32) (r_od_quarters : Nat → Int32) (hf : f_X8_bad sc_people od_tired od_quarters p1 p2 = some (r, r_od_tired, r_od_quarters)) : RwC l D cI cJ cZ cS yX8_bad cX8_bad 3 (some .int) 1 23 (w_OE cI cJ cZ cS oe_A oe_kept_A oe_standing_A pa_A pa_signs_A sc_A sh_A sh_looks_A sh_openBits_A bl_A bl_settings_A od_A od_quarters_A st_A st_talls_A st_pairs_A hw_A hw_cutsFrom_A hw_chosen_A pw_A pw_leaves_A pw_first_A oe_kept oe_standing pa_signs pa_count sc_people sc_bride sh_count sh_hands sh_looks sh_openBits bl_flash bl_settings od_tired od_quarters st_rows st_columns st_rise st_talls st_pairs st_changed hw_cutsFrom hw_chosen pw_leaves pw_first pw_people pw_count) sz [.ref oe_A, .int p1, .int p2] (some (.int r)) (w_OE cI cJ cZ cS oe_A oe_kept_A oe_standing_A pa_A pa_signs_A sc_A sh_A sh_looks_A sh_openBits_A bl_A bl_settings_A od_A od_quarters_A st_A st_talls_A st_pairs_A hw_A hw_cutsFrom_A hw_chosen_A pw_A pw_leaves_A pw_first_A oe_kept oe_standing pa_signs pa_count sc_people sc_bride sh_count sh_hands sh_looks sh_openBits bl_flash bl_settings r_od_tired r_od_quarters st_rows st_columns st_rise st_talls st_pairs st_changed hw_cutsFrom hw_chosen pw_leaves pw_first pw_people pw_count) := by
  refine rw_in_i (own := RX8) (by decide +kernel) rfl (Nat.le_of_ble_eq_true rfl) ?_
  intro p e s m args below meth c ls Q A E hA hQ hP hD hS hl
  obtain ⟨hx, hb, hml, hown, hts, hK, hN, hAO⟩ := id E
  have hl : lv_has ls 3 [(0, .ref oe_A), (1, .int p1), (2, .int p2)] := hl
  unfold f_X8_bad at hf
  obtain ⟨H, hH⟩ : ∃ H, H = s.heap := ⟨_, rfl⟩
  obtain ⟨locs, hlocs⟩ : ∃ L : List Loc, L = [] := ⟨_, rfl⟩
  rw [show W p l e (roR 1 23) s m args below meth c s.heap [] 0 0 Q (F0 m 0 ls []) = W p l e (roR 1 23) s m args below meth c H locs 0 0 Q (F0 m 0 ls []) by rw [hH, hlocs]]
  replace hS : va_S A s.heap H locs := by rw [hH, hlocs]; exact hS
  replace hP : va_P D vwCl (w_OE cI cJ cZ cS oe_A oe_kept_A oe_standing_A pa_A pa_signs_A sc_A sh_A sh_looks_A sh_openBits_A bl_A bl_settings_A od_A od_quarters_A st_A st_talls_A st_pairs_A hw_A hw_cutsFrom_A hw_chosen_A pw_A pw_leaves_A pw_first_A oe_kept oe_standing pa_signs pa_count sc_people sc_bride sh_count sh_hands sh_looks sh_openBits bl_flash bl_settings od_tired od_quarters st_rows st_columns st_rise st_talls st_pairs st_changed hw_cutsFrom hw_chosen pw_leaves pw_first pw_people pw_count) H := by rw [hH]; exact hP
  clear hH hlocs
  refine lv_iload_n (pc := 0) hx hb dX8_bad_0 rfl (lv_at hl 1 rfl) ?_
  refine lv_iconst (pc := 1) (v := (-1 : Int32)) hx hb dX8_bad_1 (by decide) ?_
  refine r_ic_ne (pc := 2) (tgt := 32) hx hb dX8_bad_2 (by decide) hf (fun hf => ?_) (fun hf => ?_)
  · refine lv_aload_n (pc := 32) hx hb dX8_bad_32 rfl (lv_at hl 0 rfl) ?_
    refine va_get (pc := 33) (D := D) (ci := 8) (v := .ref sc_A) (C := RX8) (T := TX8) (N := 6) hx hb hts inG8 hown hK hP 0 rfl rfl 1 (by decide) (hts _ tw_195) (fun _ h9 => h9) rfl dX8_bad_33 ?_
    refine lv_iload_n (pc := 36) hx hb dX8_bad_36 rfl (lv_at hl 1 rfl) ?_
    obtain ⟨v1, hv37, hf⟩ := bd_e hf
    refine ro_Vi (pc := 37) (As := [.int p1]) (rest := []) E (c_X5_has l D cI cJ cZ cS sc_A sh_A bl_A od_A st_A sc_people sc_bride p1 v1 hv37) F_X5_has rfl rfl tw_235 tw_236 tw_237 (hP.subm [5] rfl) ⟨by decide, by decide⟩ rfl hl.1 (Nat.le_of_ble_eq_true rfl) ⟨by decide, by decide⟩ rfl dX8_bad_37 ?_
    refine r_if_ne (pc := 40) (tgt := 45) hx hb dX8_bad_40 (by decide) hf (fun hf => ?_) (fun hf => ?_)
    · refine lv_iload_n (pc := 45) hx hb dX8_bad_45 rfl (lv_at hl 2 rfl) ?_
      refine lv_iconst (pc := 46) (v := (0 : Int32)) hx hb dX8_bad_46 (by decide) ?_
      refine lv_iconst (pc := 47) (v := (4 : Int32)) hx hb dX8_bad_47 (by decide) ?_
      obtain ⟨v2, hv48, hf⟩ := bd_e hf
      refine ro_Si (pc := 48) (As := [.int p2, .int (0 : Int32), .int (4 : Int32)]) (rest := []) E (c_X8_within l D cI cJ cZ cS p2 (0 : Int32) (4 : Int32) v2 hv48) F_X8_within tw_217 tw_218  va_P_nil ⟨by decide, by decide⟩ rfl hl.1 (Nat.le_of_ble_eq_true rfl) ⟨by decide, by decide⟩ rfl dX8_bad_48 ?_
      refine r_if_eq (pc := 51) (tgt := 69) hx hb dX8_bad_51 (by decide) hf (fun hf => ?_) (fun hf => ?_)
      · refine lv_bipush (pc := 69) (v := (-2 : Int32)) hx hb dX8_bad_69 (by decide) ?_
        cases hf
        exact hQ _ _ _ _ _ dX8_bad_71 rfl hP hD hS
      · refine lv_aload_n (pc := 54) hx hb dX8_bad_54 rfl (lv_at hl 0 rfl) ?_
        refine va_get (pc := 55) (D := D) (ci := 8) (v := .ref sc_A) (C := RX8) (T := TX8) (N := 6) hx hb hts inG8 hown hK hP 0 rfl rfl 1 (by decide) (hts _ tw_195) (fun _ h9 => h9) rfl dX8_bad_55 ?_
        refine va_getN (pc := 58) (D := D) (ci := 5) (v := .ref od_A) (C := RX5) (T := TX5) (N := 6) hx hb hts inG5 hown hK hP 5 rfl rfl 4 (by decide) (va_Nw.use rfl (hN _ tn_17)) (fun _ h9 => h9) rfl dX8_bad_58 ?_
        refine lv_iload_n (pc := 61) hx hb dX8_bad_61 rfl (lv_at hl 1 rfl) ?_
        refine lv_iload_n (pc := 62) hx hb dX8_bad_62 rfl (lv_at hl 2 rfl) ?_
        obtain ⟨⟨v3, od_quarters_4⟩, hv63, hf⟩ := bd_e hf
        refine rw_Vi (pc := 63) (As := [.int p1, .int p2]) (rest := []) (wr := [(oe_A, .inr (8, [.ref pa_A, .ref sc_A, .ref oe_kept_A, .ref hw_A, .ref pw_A, .ref oe_standing_A])), (oe_kept_A, .inl (cS, 2, .inr (.inr (.inr (.inr oe_kept))))), (oe_standing_A, .inl (cI, 8, .inl oe_standing)), (pa_A, .inr (3, [.ref pa_signs_A, .int pa_count])), (pa_signs_A, .inl (cI, 40, .inl pa_signs)), (sc_A, .inr (5, [.int sc_people, .int sc_bride, .ref sh_A, .ref bl_A, .ref od_A, .ref st_A])), (sh_A, .inr (6, [.int sh_count, .int sh_hands, .ref sh_looks_A, .ref sh_openBits_A])), (sh_looks_A, .inl (cI, 80, .inl sh_looks)), (sh_openBits_A, .inl (cI, 10, .inl sh_openBits)), (bl_A, .inr (0, [.int bl_flash, .ref bl_settings_A])), (bl_settings_A, .inl (cI, 24, .inl bl_settings)), (st_A, .inr (7, [.int st_rows, .int st_columns, .int st_rise, .ref st_talls_A, .ref st_pairs_A, .int st_changed])), (st_talls_A, .inl (cI, 8, .inl st_talls)), (st_pairs_A, .inl (cI, 64, .inl st_pairs)), (hw_A, .inr (1, [.ref hw_cutsFrom_A, .ref hw_chosen_A])), (hw_cutsFrom_A, .inl (cI, 80, .inl hw_cutsFrom)), (hw_chosen_A, .inl (cI, 8, .inl hw_chosen)), (pw_A, .inr (4, [.ref pw_leaves_A, .ref pw_first_A, .int pw_people, .int pw_count])), (pw_leaves_A, .inl (cJ, 64, .inr (.inl pw_leaves))), (pw_first_A, .inl (cI, 8, .inl pw_first))]) (wn := (w_OE cI cJ cZ cS oe_A oe_kept_A oe_standing_A pa_A pa_signs_A sc_A sh_A sh_looks_A sh_openBits_A bl_A bl_settings_A od_A od_quarters_A st_A st_talls_A st_pairs_A hw_A hw_cutsFrom_A hw_chosen_A pw_A pw_leaves_A pw_first_A oe_kept oe_standing pa_signs pa_count sc_people sc_bride sh_count sh_hands sh_looks sh_openBits bl_flash bl_settings od_tired od_quarters_4 st_rows st_columns st_rise st_talls st_pairs st_changed hw_cutsFrom hw_chosen pw_leaves pw_first pw_people pw_count)) E (c_X2_changeQuarters l D cI cJ cZ cS od_A od_quarters_A od_tired od_quarters p1 p2 H.size v3 od_quarters_4 hv63) F_X2_changeQuarters rfl rfl tw_497 tw_498 tw_499 hP hD hS hA [11, 12] [0, 1, 2, 3, 4, 5, 6, 7, 8, 9, 10, 13, 14, 15, 16, 17, 18, 19, 20, 21] [0, 1, 2, 3, 4, 5, 6, 7, 8, 9, 10, 20, 21, 11, 12, 13, 14, 15, 16, 17, 18, 19] rfl rfl (by decide) (by decide) (by decide) rfl (by decide) ⟨by decide, by decide⟩ rfl hl.1 (Nat.le_of_ble_eq_true rfl) ⟨by decide, by decide⟩ rfl dX8_bad_63 (fun H locs hP hD hS => ?_)
        refine lv_goto (pc := 66) (tgt := 71) hx hb dX8_bad_66 (by decide) ?_
        cases hf
        exact hQ _ _ _ _ _ dX8_bad_71 rfl hP hD hS
    · refine lv_iconst (pc := 43) (v := (-1 : Int32)) hx hb dX8_bad_43 (by decide) ?_
      cases hf
      exact hQ _ _ _ _ _ dX8_bad_44 rfl hP hD hS
  · refine lv_iload_n (pc := 5) hx hb dX8_bad_5 rfl (lv_at hl 2 rfl) ?_
    refine lv_iconst (pc := 6) (v := (0 : Int32)) hx hb dX8_bad_6 (by decide) ?_
    refine lv_bipush (pc := 7) (v := (20 : Int32)) hx hb dX8_bad_7 (by decide) ?_
    obtain ⟨v5, hv9, hf⟩ := bd_e hf
    refine ro_Si (pc := 9) (As := [.int p2, .int (0 : Int32), .int (20 : Int32)]) (rest := []) E (c_X8_within l D cI cJ cZ cS p2 (0 : Int32) (20 : Int32) v5 hv9) F_X8_within tw_217 tw_218  va_P_nil ⟨by decide, by decide⟩ rfl hl.1 (Nat.le_of_ble_eq_true rfl) ⟨by decide, by decide⟩ rfl dX8_bad_9 ?_
    refine r_if_eq (pc := 12) (tgt := 29) hx hb dX8_bad_12 (by decide) hf (fun hf => ?_) (fun hf => ?_)
    · refine lv_bipush (pc := 29) (v := (-2 : Int32)) hx hb dX8_bad_29 (by decide) ?_
      cases hf
      exact hQ _ _ _ _ _ dX8_bad_31 rfl hP hD hS
    · refine lv_aload_n (pc := 15) hx hb dX8_bad_15 rfl (lv_at hl 0 rfl) ?_
      refine va_get (pc := 16) (D := D) (ci := 8) (v := .ref sc_A) (C := RX8) (T := TX8) (N := 6) hx hb hts inG8 hown hK hP 0 rfl rfl 1 (by decide) (hts _ tw_195) (fun _ h9 => h9) rfl dX8_bad_16 ?_
      refine va_getN (pc := 19) (D := D) (ci := 5) (v := .ref od_A) (C := RX5) (T := TX5) (N := 6) hx hb hts inG5 hown hK hP 5 rfl rfl 4 (by decide) (va_Nw.use rfl (hN _ tn_17)) (fun _ h9 => h9) rfl dX8_bad_19 ?_
      refine lv_iload_n (pc := 22) hx hb dX8_bad_22 rfl (lv_at hl 2 rfl) ?_
      obtain ⟨⟨v6, od_tired_7⟩, hv23, hf⟩ := bd_e hf
      refine rw_Vi (pc := 23) (As := [.int p2]) (rest := []) (wr := [(oe_A, .inr (8, [.ref pa_A, .ref sc_A, .ref oe_kept_A, .ref hw_A, .ref pw_A, .ref oe_standing_A])), (oe_kept_A, .inl (cS, 2, .inr (.inr (.inr (.inr oe_kept))))), (oe_standing_A, .inl (cI, 8, .inl oe_standing)), (pa_A, .inr (3, [.ref pa_signs_A, .int pa_count])), (pa_signs_A, .inl (cI, 40, .inl pa_signs)), (sc_A, .inr (5, [.int sc_people, .int sc_bride, .ref sh_A, .ref bl_A, .ref od_A, .ref st_A])), (sh_A, .inr (6, [.int sh_count, .int sh_hands, .ref sh_looks_A, .ref sh_openBits_A])), (sh_looks_A, .inl (cI, 80, .inl sh_looks)), (sh_openBits_A, .inl (cI, 10, .inl sh_openBits)), (bl_A, .inr (0, [.int bl_flash, .ref bl_settings_A])), (bl_settings_A, .inl (cI, 24, .inl bl_settings)), (st_A, .inr (7, [.int st_rows, .int st_columns, .int st_rise, .ref st_talls_A, .ref st_pairs_A, .int st_changed])), (st_talls_A, .inl (cI, 8, .inl st_talls)), (st_pairs_A, .inl (cI, 64, .inl st_pairs)), (hw_A, .inr (1, [.ref hw_cutsFrom_A, .ref hw_chosen_A])), (hw_cutsFrom_A, .inl (cI, 80, .inl hw_cutsFrom)), (hw_chosen_A, .inl (cI, 8, .inl hw_chosen)), (pw_A, .inr (4, [.ref pw_leaves_A, .ref pw_first_A, .int pw_people, .int pw_count])), (pw_leaves_A, .inl (cJ, 64, .inr (.inl pw_leaves))), (pw_first_A, .inl (cI, 8, .inl pw_first))]) (wn := (w_OE cI cJ cZ cS oe_A oe_kept_A oe_standing_A pa_A pa_signs_A sc_A sh_A sh_looks_A sh_openBits_A bl_A bl_settings_A od_A od_quarters_A st_A st_talls_A st_pairs_A hw_A hw_cutsFrom_A hw_chosen_A pw_A pw_leaves_A pw_first_A oe_kept oe_standing pa_signs pa_count sc_people sc_bride sh_count sh_hands sh_looks sh_openBits bl_flash bl_settings od_tired_7 od_quarters st_rows st_columns st_rise st_talls st_pairs st_changed hw_cutsFrom hw_chosen pw_leaves pw_first pw_people pw_count)) E (c_X2_changeTired l D cI cJ cZ cS od_A od_quarters_A od_tired od_quarters p2 H.size v6 od_tired_7 hv23) F_X2_changeTired rfl rfl tw_493 tw_494 tw_495 hP hD hS hA [11, 12] [0, 1, 2, 3, 4, 5, 6, 7, 8, 9, 10, 13, 14, 15, 16, 17, 18, 19, 20, 21] [0, 1, 2, 3, 4, 5, 6, 7, 8, 9, 10, 20, 21, 11, 12, 13, 14, 15, 16, 17, 18, 19] rfl rfl (by decide) (by decide) (by decide) rfl (by decide) ⟨by decide, by decide⟩ rfl hl.1 (Nat.le_of_ble_eq_true rfl) ⟨by decide, by decide⟩ rfl dX8_bad_23 (fun H locs hP hD hS => ?_)
      refine lv_goto (pc := 26) (tgt := 31) hx hb dX8_bad_26 (by decide) ?_
      cases hf
      exact hQ _ _ _ _ _ dX8_bad_31 rfl hP hD hS
theorem F_X8_likely : CalF yX8_likely cX8_likely 3 (some .long) 2 := ⟨tw_504, tw_1, by decide +kernel⟩
set_option maxRecDepth 100000 in
set_option maxHeartbeats 4000000 in
theorem c_X8_likely (l : Launch) (D : va_G) (cI cJ cZ cS : ClassId) (N : Nat) (oe_A oe_kept_A oe_standing_A pa_A pa_signs_A sc_A sh_A sh_looks_A sh_openBits_A bl_A bl_settings_A od_A od_quarters_A st_A st_talls_A st_pairs_A hw_A hw_cutsFrom_A hw_chosen_A pw_A pw_leaves_A pw_first_A : Nat) (oe_kept : Nat → Option Nat) (oe_standing : Nat → Int32) (pa_signs : Nat → Int32) (pa_count : Int32) (sc_people : Int32) (sc_bride : Int32) (sh_count : Int32) (sh_hands : Int32) (sh_looks : Nat → Int32) (sh_openBits : Nat → Int32) (bl_flash : Int32) (bl_settings : Nat → Int32) (od_tired : Int32) (od_quarters : Nat → Int32) (st_rows : Int32) (st_columns : Int32) (st_rise : Int32) (st_talls : Nat → Int32) (st_pairs : Nat → Int32) (st_changed : Int32) (hw_cutsFrom : Nat → Int32) (hw_chosen : Nat → Int32) (pw_leaves : Nat → Int64) (pw_first : Nat → Int32) (pw_people : Int32) (pw_count : Int32) (p1 : Int32) (p2 : Int32) (r : Int64) (hf : f_X8_likely N sc_people od_tired od_quarters p1 p2 = some r) : RoC l D cI cJ cZ cS yX8_likely cX8_likely 3 (some .long) 3 68 (w_OE cI cJ cZ cS oe_A oe_kept_A oe_standing_A pa_A pa_signs_A sc_A sh_A sh_looks_A sh_openBits_A bl_A bl_settings_A od_A od_quarters_A st_A st_talls_A st_pairs_A hw_A hw_cutsFrom_A hw_chosen_A pw_A pw_leaves_A pw_first_A oe_kept oe_standing pa_signs pa_count sc_people sc_bride sh_count sh_hands sh_looks sh_openBits bl_flash bl_settings od_tired od_quarters st_rows st_columns st_rise st_talls st_pairs st_changed hw_cutsFrom hw_chosen pw_leaves pw_first pw_people pw_count) [.ref oe_A, .int p1, .int p2] (some (.long r)) := by
  refine ro_in_l (own := RX8) (by decide +kernel) rfl (Nat.le_of_ble_eq_true rfl) ?_
  intro p e s m args below meth c ls Q E hQ hP hl
  obtain ⟨hx, hb, hml, hown, hts, hK, hN, hAO⟩ := id E
  have hl : lv_has ls 3 [(0, .ref oe_A), (1, .int p1), (2, .int p2)] := hl
  unfold f_X8_likely at hf
  refine lv_iload_n (pc := 0) hx hb dX8_likely_0 rfl (lv_at hl 1 rfl) ?_
  refine lv_iconst (pc := 1) (v := (0 : Int32)) hx hb dX8_likely_1 (by decide) ?_
  refine lv_bipush (pc := 2) (v := (20 : Int32)) hx hb dX8_likely_2 (by decide) ?_
  obtain ⟨v1, hv4, hf⟩ := bd_e hf
  refine ro_Si (pc := 4) (As := [.int p1, .int (0 : Int32), .int (20 : Int32)]) (rest := []) E (c_X8_within l D cI cJ cZ cS p1 (0 : Int32) (20 : Int32) v1 hv4) F_X8_within tw_217 tw_218  va_P_nil ⟨by decide, by decide⟩ rfl hl.1 (Nat.le_of_ble_eq_true rfl) ⟨by decide, by decide⟩ rfl dX8_likely_4 ?_
  obtain ⟨k2, hk2, hf⟩ := lc0_e hf
  have K2 : ∀  (ls : Array Slot), k2 = some r → lv_has ls 3 [] → W p l e (roR 3 68) s m args below meth c s.heap [] 0 0 Q (F0 m 19 ls []) := by
    intro  ls hf hl
    rw [hk2] at hf
    refine lv_ldc2 (pc := 19) hx hb hown (hts _ tw_505) dX8_likely_19 ?_
    exact hQ _ _ _ dX8_likely_22 hf
  refine r_if_eq (pc := 7) (tgt := 19) hx hb dX8_likely_7 (by decide) hf (fun hf => ?_) (fun hf => ?_)
  · exact K2  _ hf (lv_sub hl [] rfl)
  · refine lv_iload_n (pc := 10) hx hb dX8_likely_10 rfl (lv_at hl 2 rfl) ?_
    refine lv_iconst (pc := 11) (v := (0 : Int32)) hx hb dX8_likely_11 (by decide) ?_
    refine lv_iconst (pc := 12) (v := (1 : Int32)) hx hb dX8_likely_12 (by decide) ?_
    obtain ⟨v3, hv13, hf⟩ := bd_e hf
    refine ro_Si (pc := 13) (As := [.int p2, .int (0 : Int32), .int (1 : Int32)]) (rest := []) E (c_X8_within l D cI cJ cZ cS p2 (0 : Int32) (1 : Int32) v3 hv13) F_X8_within tw_217 tw_218  va_P_nil ⟨by decide, by decide⟩ rfl hl.1 (Nat.le_of_ble_eq_true rfl) ⟨by decide, by decide⟩ rfl dX8_likely_13 ?_
    refine r_if_ne (pc := 16) (tgt := 23) hx hb dX8_likely_16 (by decide) hf (fun hf => ?_) (fun hf => ?_)
    · refine lv_aload_n (pc := 23) hx hb dX8_likely_23 rfl (lv_at hl 0 rfl) ?_
      refine va_get (pc := 24) (D := D) (ci := 8) (v := .ref sc_A) (C := RX8) (T := TX8) (N := 6) hx hb hts inG8 hown hK hP 0 rfl rfl 1 (by decide) (hts _ tw_195) (fun _ h9 => h9) rfl dX8_likely_24 ?_
      refine va_getN (pc := 27) (D := D) (ci := 5) (v := .ref od_A) (C := RX5) (T := TX5) (N := 6) hx hb hts inG5 hown hK hP 5 rfl rfl 4 (by decide) (va_Nw.use rfl (hN _ tn_17)) (fun _ h9 => h9) rfl dX8_likely_27 ?_
      refine lv_iload_n (pc := 30) hx hb dX8_likely_30 rfl (lv_at hl 1 rfl) ?_
      refine lv_aload_n (pc := 31) hx hb dX8_likely_31 rfl (lv_at hl 0 rfl) ?_
      refine va_get (pc := 32) (D := D) (ci := 8) (v := .ref sc_A) (C := RX8) (T := TX8) (N := 6) hx hb hts inG8 hown hK hP 0 rfl rfl 1 (by decide) (hts _ tw_195) (fun _ h9 => h9) rfl dX8_likely_32 ?_
      refine va_getN (pc := 35) (D := D) (ci := 5) (v := .int sc_people) (C := RX5) (T := TX5) (N := 6) hx hb hts inG5 hown hK hP 5 rfl rfl 0 (by decide) (va_Nw.use rfl (hN _ tn_13)) (fun _ h9 => h9) rfl dX8_likely_35 ?_
      obtain ⟨v4, hv38, hf⟩ := bd_e hf
      refine ro_Vl (pc := 38) (As := [.int p1, .int sc_people]) (rest := []) E (c_X2_waysAllOpen l D cI cJ cZ cS N od_A od_quarters_A od_tired od_quarters p1 sc_people v4 hv38) F_X2_waysAllOpen rfl rfl tw_506 tw_507 tw_508 (hP.subm [11, 12] rfl) ⟨by decide, by decide⟩ rfl hl.1 (Nat.le_of_ble_eq_true rfl) ⟨by decide, by decide⟩ rfl dX8_likely_38 ?_
      refine lv_iconst (pc := 41) (v := (1 : Int32)) hx hb dX8_likely_41 (by decide) ?_
      refine lv_aload_n (pc := 42) hx hb dX8_likely_42 rfl (lv_at hl 0 rfl) ?_
      refine va_get (pc := 43) (D := D) (ci := 8) (v := .ref sc_A) (C := RX8) (T := TX8) (N := 6) hx hb hts inG8 hown hK hP 0 rfl rfl 1 (by decide) (hts _ tw_195) (fun _ h9 => h9) rfl dX8_likely_43 ?_
      refine va_getN (pc := 46) (D := D) (ci := 5) (v := .int sc_people) (C := RX5) (T := TX5) (N := 6) hx hb hts inG5 hown hK hP 5 rfl rfl 0 (by decide) (va_Nw.use rfl (hN _ tn_13)) (fun _ h9 => h9) rfl dX8_likely_46 ?_
      obtain ⟨v5, hv49, hf⟩ := bd_e hf
      refine ro_Sl (pc := 49) (As := [.int (1 : Int32), .int sc_people]) (rest := [.long v4]) E (c_X2_waysOf l D cI cJ cZ cS (1 : Int32) sc_people v5 hv49) F_X2_waysOf tw_515 tw_516  va_P_nil ⟨by decide, by decide⟩ rfl hl.1 (Nat.le_of_ble_eq_true rfl) ⟨by decide, by decide⟩ rfl dX8_likely_49 ?_
      refine lv_iload_n (pc := 52) hx hb dX8_likely_52 rfl (lv_at hl 2 rfl) ?_
      obtain ⟨v6, hv53, hf⟩ := bd_e hf
      refine ro_Sl (pc := 53) (As := [.long v4, .long v5, .int p2]) (rest := []) E (c_X8_lowest l D cI cJ cZ cS N v4 v5 p2 v6 hv53) F_X8_lowest tw_518 tw_519  va_P_nil ⟨by decide, by decide⟩ rfl hl.1 (Nat.le_of_ble_eq_true rfl) ⟨by decide, by decide⟩ rfl dX8_likely_53 ?_
      exact hQ _ _ _ dX8_likely_56 hf
    · exact K2  _ hf (lv_sub hl [] rfl)
theorem F_X8_one : CalF yX8_one cX8_one 3 (some .long) 2 := ⟨tw_525, tw_1, by decide +kernel⟩
set_option maxRecDepth 100000 in
set_option maxHeartbeats 4000000 in
theorem c_X8_one (l : Launch) (D : va_G) (cI cJ cZ cS : ClassId) (N : Nat) (oe_A oe_kept_A oe_standing_A pa_A pa_signs_A sc_A sh_A sh_looks_A sh_openBits_A bl_A bl_settings_A od_A od_quarters_A st_A st_talls_A st_pairs_A hw_A hw_cutsFrom_A hw_chosen_A pw_A pw_leaves_A pw_first_A : Nat) (oe_kept : Nat → Option Nat) (oe_standing : Nat → Int32) (pa_signs : Nat → Int32) (pa_count : Int32) (sc_people : Int32) (sc_bride : Int32) (sh_count : Int32) (sh_hands : Int32) (sh_looks : Nat → Int32) (sh_openBits : Nat → Int32) (bl_flash : Int32) (bl_settings : Nat → Int32) (od_tired : Int32) (od_quarters : Nat → Int32) (st_rows : Int32) (st_columns : Int32) (st_rise : Int32) (st_talls : Nat → Int32) (st_pairs : Nat → Int32) (st_changed : Int32) (hw_cutsFrom : Nat → Int32) (hw_chosen : Nat → Int32) (pw_leaves : Nat → Int64) (pw_first : Nat → Int32) (pw_people : Int32) (pw_count : Int32) (p1 : Int32) (p2 : Int32) (r : Int64) (hf : f_X8_one N sc_people od_tired od_quarters p1 p2 = some r) : RoC l D cI cJ cZ cS yX8_one cX8_one 3 (some .long) 4 93 (w_OE cI cJ cZ cS oe_A oe_kept_A oe_standing_A pa_A pa_signs_A sc_A sh_A sh_looks_A sh_openBits_A bl_A bl_settings_A od_A od_quarters_A st_A st_talls_A st_pairs_A hw_A hw_cutsFrom_A hw_chosen_A pw_A pw_leaves_A pw_first_A oe_kept oe_standing pa_signs pa_count sc_people sc_bride sh_count sh_hands sh_looks sh_openBits bl_flash bl_settings od_tired od_quarters st_rows st_columns st_rise st_talls st_pairs st_changed hw_cutsFrom hw_chosen pw_leaves pw_first pw_people pw_count) [.ref oe_A, .int p1, .int p2] (some (.long r)) := by
  refine ro_in_l (own := RX8) (by decide +kernel) rfl (Nat.le_of_ble_eq_true rfl) ?_
  intro p e s m args below meth c ls Q E hQ hP hl
  obtain ⟨hx, hb, hml, hown, hts, hK, hN, hAO⟩ := id E
  have hl : lv_has ls 3 [(0, .ref oe_A), (1, .int p1), (2, .int p2)] := hl
  unfold f_X8_one at hf
  refine lv_iload_n (pc := 0) hx hb dX8_one_0 rfl (lv_at hl 1 rfl) ?_
  refine lv_iconst (pc := 1) (v := (1 : Int32)) hx hb dX8_one_1 (by decide) ?_
  refine lv_iconst (pc := 2) (v := (3 : Int32)) hx hb dX8_one_2 (by decide) ?_
  obtain ⟨v1, hv3, hf⟩ := bd_e hf
  refine ro_Si (pc := 3) (As := [.int p1, .int (1 : Int32), .int (3 : Int32)]) (rest := []) E (c_X8_within l D cI cJ cZ cS p1 (1 : Int32) (3 : Int32) v1 hv3) F_X8_within tw_217 tw_218  va_P_nil ⟨by decide, by decide⟩ rfl hl.1 (Nat.le_of_ble_eq_true rfl) ⟨by decide, by decide⟩ rfl dX8_one_3 ?_
  obtain ⟨k2, hk2, hf⟩ := lc0_e hf
  have K2 : ∀  (ls : Array Slot), k2 = some r → lv_has ls 3 [] → W p l e (roR 4 93) s m args below meth c s.heap [] 0 0 Q (F0 m 18 ls []) := by
    intro  ls hf hl
    rw [hk2] at hf
    refine lv_ldc2 (pc := 18) hx hb hown (hts _ tw_505) dX8_one_18 ?_
    exact hQ _ _ _ dX8_one_21 hf
  refine r_if_eq (pc := 6) (tgt := 18) hx hb dX8_one_6 (by decide) hf (fun hf => ?_) (fun hf => ?_)
  · exact K2  _ hf (lv_sub hl [] rfl)
  · refine lv_iload_n (pc := 9) hx hb dX8_one_9 rfl (lv_at hl 2 rfl) ?_
    refine lv_iconst (pc := 10) (v := (0 : Int32)) hx hb dX8_one_10 (by decide) ?_
    refine lv_iconst (pc := 11) (v := (1 : Int32)) hx hb dX8_one_11 (by decide) ?_
    obtain ⟨v3, hv12, hf⟩ := bd_e hf
    refine ro_Si (pc := 12) (As := [.int p2, .int (0 : Int32), .int (1 : Int32)]) (rest := []) E (c_X8_within l D cI cJ cZ cS p2 (0 : Int32) (1 : Int32) v3 hv12) F_X8_within tw_217 tw_218  va_P_nil ⟨by decide, by decide⟩ rfl hl.1 (Nat.le_of_ble_eq_true rfl) ⟨by decide, by decide⟩ rfl dX8_one_12 ?_
    refine r_if_ne (pc := 15) (tgt := 22) hx hb dX8_one_15 (by decide) hf (fun hf => ?_) (fun hf => ?_)
    · refine lv_aload_n (pc := 22) hx hb dX8_one_22 rfl (lv_at hl 0 rfl) ?_
      refine va_get (pc := 23) (D := D) (ci := 8) (v := .ref sc_A) (C := RX8) (T := TX8) (N := 6) hx hb hts inG8 hown hK hP 0 rfl rfl 1 (by decide) (hts _ tw_195) (fun _ h9 => h9) rfl dX8_one_23 ?_
      refine va_getN (pc := 26) (D := D) (ci := 5) (v := .ref od_A) (C := RX5) (T := TX5) (N := 6) hx hb hts inG5 hown hK hP 5 rfl rfl 4 (by decide) (va_Nw.use rfl (hN _ tn_17)) (fun _ h9 => h9) rfl dX8_one_26 ?_
      refine lv_iload_n (pc := 29) hx hb dX8_one_29 rfl (lv_at hl 1 rfl) ?_
      refine lv_aload_n (pc := 30) hx hb dX8_one_30 rfl (lv_at hl 0 rfl) ?_
      refine va_get (pc := 31) (D := D) (ci := 8) (v := .ref sc_A) (C := RX8) (T := TX8) (N := 6) hx hb hts inG8 hown hK hP 0 rfl rfl 1 (by decide) (hts _ tw_195) (fun _ h9 => h9) rfl dX8_one_31 ?_
      refine va_getN (pc := 34) (D := D) (ci := 5) (v := .int sc_people) (C := RX5) (T := TX5) (N := 6) hx hb hts inG5 hown hK hP 5 rfl rfl 0 (by decide) (va_Nw.use rfl (hN _ tn_13)) (fun _ h9 => h9) rfl dX8_one_34 ?_
      obtain ⟨v4, hv37, hf⟩ := bd_e hf
      refine ro_Vl (pc := 37) (As := [.int p1, .int sc_people]) (rest := []) E (c_X2_waysOneOf l D cI cJ cZ cS N od_A od_quarters_A od_tired od_quarters p1 sc_people v4 hv37) F_X2_waysOneOf rfl rfl tw_526 tw_527 tw_528 (hP.subm [11, 12] rfl) ⟨by decide, by decide⟩ rfl hl.1 (Nat.le_of_ble_eq_true rfl) ⟨by decide, by decide⟩ rfl dX8_one_37 ?_
      refine lv_iload_n (pc := 40) hx hb dX8_one_40 rfl (lv_at hl 1 rfl) ?_
      refine lv_aload_n (pc := 41) hx hb dX8_one_41 rfl (lv_at hl 0 rfl) ?_
      refine va_get (pc := 42) (D := D) (ci := 8) (v := .ref sc_A) (C := RX8) (T := TX8) (N := 6) hx hb hts inG8 hown hK hP 0 rfl rfl 1 (by decide) (hts _ tw_195) (fun _ h9 => h9) rfl dX8_one_42 ?_
      refine va_getN (pc := 45) (D := D) (ci := 5) (v := .int sc_people) (C := RX5) (T := TX5) (N := 6) hx hb hts inG5 hown hK hP 5 rfl rfl 0 (by decide) (va_Nw.use rfl (hN _ tn_13)) (fun _ h9 => h9) rfl dX8_one_45 ?_
      obtain ⟨v5, hv48, hf⟩ := bd_e hf
      refine ro_Sl (pc := 48) (As := [.int p1, .int sc_people]) (rest := [.long v4]) E (c_X2_waysOf l D cI cJ cZ cS p1 sc_people v5 hv48) F_X2_waysOf tw_515 tw_516  va_P_nil ⟨by decide, by decide⟩ rfl hl.1 (Nat.le_of_ble_eq_true rfl) ⟨by decide, by decide⟩ rfl dX8_one_48 ?_
      refine lv_iload_n (pc := 51) hx hb dX8_one_51 rfl (lv_at hl 2 rfl) ?_
      obtain ⟨v6, hv52, hf⟩ := bd_e hf
      refine ro_Sl (pc := 52) (As := [.long v4, .long v5, .int p2]) (rest := []) E (c_X8_lowest l D cI cJ cZ cS N v4 v5 p2 v6 hv52) F_X8_lowest tw_518 tw_519  va_P_nil ⟨by decide, by decide⟩ rfl hl.1 (Nat.le_of_ble_eq_true rfl) ⟨by decide, by decide⟩ rfl dX8_one_52 ?_
      exact hQ _ _ _ dX8_one_55 hf
    · exact K2  _ hf (lv_sub hl [] rfl)
theorem F_X8_many : CalF yX8_many cX8_many 4 (some .int) 2 := ⟨tw_535, tw_1, by decide +kernel⟩
set_option maxRecDepth 100000 in
set_option maxHeartbeats 4000000 in
theorem c_X8_many (l : Launch) (D : va_G) (cI cJ cZ cS : ClassId) (N : Nat) (oe_A oe_kept_A oe_standing_A pa_A pa_signs_A sc_A sh_A sh_looks_A sh_openBits_A bl_A bl_settings_A od_A od_quarters_A st_A st_talls_A st_pairs_A hw_A hw_cutsFrom_A hw_chosen_A pw_A pw_leaves_A pw_first_A : Nat) (oe_kept : Nat → Option Nat) (oe_standing : Nat → Int32) (pa_signs : Nat → Int32) (pa_count : Int32) (sc_people : Int32) (sc_bride : Int32) (sh_count : Int32) (sh_hands : Int32) (sh_looks : Nat → Int32) (sh_openBits : Nat → Int32) (bl_flash : Int32) (bl_settings : Nat → Int32) (od_tired : Int32) (od_quarters : Nat → Int32) (st_rows : Int32) (st_columns : Int32) (st_rise : Int32) (st_talls : Nat → Int32) (st_pairs : Nat → Int32) (st_changed : Int32) (hw_cutsFrom : Nat → Int32) (hw_chosen : Nat → Int32) (pw_leaves : Nat → Int64) (pw_first : Nat → Int32) (pw_people : Int32) (pw_count : Int32) (p1 : Int32) (p2 : Int32) (r : Int32) (hf : f_X8_many N sc_people od_tired od_quarters p1 p2 = some r) : RoC l D cI cJ cZ cS yX8_many cX8_many 4 (some .int) 4 93 (w_OE cI cJ cZ cS oe_A oe_kept_A oe_standing_A pa_A pa_signs_A sc_A sh_A sh_looks_A sh_openBits_A bl_A bl_settings_A od_A od_quarters_A st_A st_talls_A st_pairs_A hw_A hw_cutsFrom_A hw_chosen_A pw_A pw_leaves_A pw_first_A oe_kept oe_standing pa_signs pa_count sc_people sc_bride sh_count sh_hands sh_looks sh_openBits bl_flash bl_settings od_tired od_quarters st_rows st_columns st_rise st_talls st_pairs st_changed hw_cutsFrom hw_chosen pw_leaves pw_first pw_people pw_count) [.ref oe_A, .int p1, .int p2] (some (.int r)) := by
  refine ro_in_i (own := RX8) (by decide +kernel) rfl (Nat.le_of_ble_eq_true rfl) ?_
  intro p e s m args below meth c ls Q E hQ hP hl
  obtain ⟨hx, hb, hml, hown, hts, hK, hN, hAO⟩ := id E
  have hl : lv_has ls 4 [(0, .ref oe_A), (1, .int p1), (2, .int p2)] := hl
  unfold f_X8_many at hf
  refine lv_iload_n (pc := 0) hx hb dX8_many_0 rfl (lv_at hl 2 rfl) ?_
  refine lv_iconst (pc := 1) (v := (1 : Int32)) hx hb dX8_many_1 (by decide) ?_
  refine lv_bipush (pc := 2) (v := (100 : Int32)) hx hb dX8_many_2 (by decide) ?_
  obtain ⟨v1, hv4, hf⟩ := bd_e hf
  refine ro_Si (pc := 4) (As := [.int p2, .int (1 : Int32), .int (100 : Int32)]) (rest := []) E (c_X8_within l D cI cJ cZ cS p2 (1 : Int32) (100 : Int32) v1 hv4) F_X8_within tw_217 tw_218  va_P_nil ⟨by decide, by decide⟩ rfl hl.1 (Nat.le_of_ble_eq_true rfl) ⟨by decide, by decide⟩ rfl dX8_many_4 ?_
  obtain ⟨k2, hk2, hf⟩ := lc0_e hf
  have K2 : ∀  (ls : Array Slot), k2 = some r → lv_has ls 4 [] → W p l e (roR 4 93) s m args below meth c s.heap [] 0 0 Q (F0 m 19 ls []) := by
    intro  ls hf hl
    rw [hk2] at hf
    refine lv_bipush (pc := 19) (v := (-2 : Int32)) hx hb dX8_many_19 (by decide) ?_
    exact hQ _ _ _ dX8_many_21 hf
  refine r_if_eq (pc := 7) (tgt := 19) hx hb dX8_many_7 (by decide) hf (fun hf => ?_) (fun hf => ?_)
  · exact K2  _ hf (lv_sub hl [] rfl)
  · refine lv_iload_n (pc := 10) hx hb dX8_many_10 rfl (lv_at hl 1 rfl) ?_
    refine lv_iconst (pc := 11) (v := (0 : Int32)) hx hb dX8_many_11 (by decide) ?_
    refine lv_iload_n (pc := 12) hx hb dX8_many_12 rfl (lv_at hl 2 rfl) ?_
    obtain ⟨v3, hv13, hf⟩ := bd_e hf
    refine ro_Si (pc := 13) (As := [.int p1, .int (0 : Int32), .int p2]) (rest := []) E (c_X8_within l D cI cJ cZ cS p1 (0 : Int32) p2 v3 hv13) F_X8_within tw_217 tw_218  va_P_nil ⟨by decide, by decide⟩ rfl hl.1 (Nat.le_of_ble_eq_true rfl) ⟨by decide, by decide⟩ rfl dX8_many_13 ?_
    refine r_if_ne (pc := 16) (tgt := 22) hx hb dX8_many_16 (by decide) hf (fun hf => ?_) (fun hf => ?_)
    · refine lv_iconst (pc := 22) (v := (1 : Int32)) hx hb dX8_many_22 (by decide) ?_
      refine lv_istore_n (pc := 23) (lv' := [(3, .int (1 : Int32)), (0, .ref oe_A), (1, .int p1), (2, .int p2)]) hx hb dX8_many_23 rfl hl (by decide) rfl (fun ls hl => ?_)
      obtain ⟨k6, hk6, hf⟩ := lc0_e hf
      have K6 : ∀  (ls : Array Slot), k6 = some r → lv_has ls 4 [] → W p l e (roR 4 93) s m args below meth c s.heap [] 0 0 Q (F0 m 76 ls []) := by
        intro  ls hf hl
        rw [hk6] at hf
        refine lv_bipush (pc := 76) (v := (-6 : Int32)) hx hb dX8_many_76 (by decide) ?_
        exact hQ _ _ _ dX8_many_78 hf
      have L24 : ∀ (n : Nat), ∀ (y4 : Int32) (ls : Array Slot), f_X8_many_L24 sc_people od_tired od_quarters p1 p2 N k6 n y4 = some r → lv_has ls 4 [(0, .ref oe_A), (1, .int p1), (2, .int p2), (3, .int y4)] → W p l e (roR 4 93) s m args below meth c s.heap [] 0 0 Q (F0 m 24 ls []) := by
        intro n
        induction n with
        | zero =>
          intro y4 ls hf
          rw [f_X8_many_L24] at hf
          cases hf
        | succ n ih =>
          intro y4 ls hf hl
          rw [f_X8_many_L24] at hf
          refine lv_iload_n (pc := 24) hx hb dX8_many_24 rfl (lv_at hl 3 rfl) ?_
          refine lv_iconst (pc := 25) (v := (3 : Int32)) hx hb dX8_many_25 (by decide) ?_
          refine r_ic_gt (pc := 26) (tgt := 76) hx hb dX8_many_26 (by decide) hf (fun hf => ?_) (fun hf => ?_)
          · exact K6  _ hf (lv_sub hl [] rfl)
          · refine lv_aload_n (pc := 29) hx hb dX8_many_29 rfl (lv_at hl 0 rfl) ?_
            refine va_get (pc := 30) (D := D) (ci := 8) (v := .ref sc_A) (C := RX8) (T := TX8) (N := 6) hx hb hts inG8 hown hK hP 0 rfl rfl 1 (by decide) (hts _ tw_195) (fun _ h9 => h9) rfl dX8_many_30 ?_
            refine va_getN (pc := 33) (D := D) (ci := 5) (v := .ref od_A) (C := RX5) (T := TX5) (N := 6) hx hb hts inG5 hown hK hP 5 rfl rfl 4 (by decide) (va_Nw.use rfl (hN _ tn_17)) (fun _ h9 => h9) rfl dX8_many_33 ?_
            refine lv_iload_n (pc := 36) hx hb dX8_many_36 rfl (lv_at hl 3 rfl) ?_
            refine lv_aload_n (pc := 37) hx hb dX8_many_37 rfl (lv_at hl 0 rfl) ?_
            refine va_get (pc := 38) (D := D) (ci := 8) (v := .ref sc_A) (C := RX8) (T := TX8) (N := 6) hx hb hts inG8 hown hK hP 0 rfl rfl 1 (by decide) (hts _ tw_195) (fun _ h9 => h9) rfl dX8_many_38 ?_
            refine va_getN (pc := 41) (D := D) (ci := 5) (v := .int sc_people) (C := RX5) (T := TX5) (N := 6) hx hb hts inG5 hown hK hP 5 rfl rfl 0 (by decide) (va_Nw.use rfl (hN _ tn_13)) (fun _ h9 => h9) rfl dX8_many_41 ?_
            obtain ⟨v7, hv44, hf⟩ := bd_e hf
            refine ro_Vl (pc := 44) (As := [.int y4, .int sc_people]) (rest := []) E (c_X2_waysOneOf l D cI cJ cZ cS N od_A od_quarters_A od_tired od_quarters y4 sc_people v7 hv44) F_X2_waysOneOf rfl rfl tw_526 tw_527 tw_528 (hP.subm [11, 12] rfl) ⟨by decide, by decide⟩ rfl hl.1 (Nat.le_of_ble_eq_true rfl) ⟨by decide, by decide⟩ rfl dX8_many_44 ?_
            refine lv_iload_n (pc := 47) hx hb dX8_many_47 rfl (lv_at hl 2 rfl) ?_
            refine lv_i2l (pc := 48) (v := (Int32.toInt64 p2)) hx hb dX8_many_48 rfl ?_
            refine lv_lmul (pc := 49) hx hb dX8_many_49 ?_
            refine lv_iload_n (pc := 50) hx hb dX8_many_50 rfl (lv_at hl 3 rfl) ?_
            refine lv_aload_n (pc := 51) hx hb dX8_many_51 rfl (lv_at hl 0 rfl) ?_
            refine va_get (pc := 52) (D := D) (ci := 8) (v := .ref sc_A) (C := RX8) (T := TX8) (N := 6) hx hb hts inG8 hown hK hP 0 rfl rfl 1 (by decide) (hts _ tw_195) (fun _ h9 => h9) rfl dX8_many_52 ?_
            refine va_getN (pc := 55) (D := D) (ci := 5) (v := .int sc_people) (C := RX5) (T := TX5) (N := 6) hx hb hts inG5 hown hK hP 5 rfl rfl 0 (by decide) (va_Nw.use rfl (hN _ tn_13)) (fun _ h9 => h9) rfl dX8_many_55 ?_
            obtain ⟨v8, hv58, hf⟩ := bd_e hf
            refine ro_Sl (pc := 58) (As := [.int y4, .int sc_people]) (rest := [.long (v7 * (Int32.toInt64 p2))]) E (c_X2_waysOf l D cI cJ cZ cS y4 sc_people v8 hv58) F_X2_waysOf tw_515 tw_516  va_P_nil ⟨by decide, by decide⟩ rfl hl.1 (Nat.le_of_ble_eq_true rfl) ⟨by decide, by decide⟩ rfl dX8_many_58 ?_
            refine lv_iload_n (pc := 61) hx hb dX8_many_61 rfl (lv_at hl 1 rfl) ?_
            refine lv_i2l (pc := 62) (v := (Int32.toInt64 p1)) hx hb dX8_many_62 rfl ?_
            refine lv_lmul (pc := 63) hx hb dX8_many_63 ?_
            refine W.lcmp (pc := 64) hx hb dX8_many_64 ?_
            refine r_if_lt (pc := 65) (tgt := 70) hx hb dX8_many_65 (by decide) hf (fun hf => ?_) (fun hf => ?_)
            · refine lv_iinc (pc := 70) (v := (y4 + (1 : Int32))) (lv' := [(3, .int (y4 + (1 : Int32))), (0, .ref oe_A), (1, .int p1), (2, .int p2)]) hx hb dX8_many_70 hl (k := 3) rfl (by rfl) (by decide) rfl (fun ls hl => ?_)
              refine lv_goto (pc := 73) (tgt := 24) hx hb dX8_many_73 (by decide) ?_
              exact ih _ _ hf (lv_sub hl [1, 2, 3, 0] rfl)
            · refine lv_iload_n (pc := 68) hx hb dX8_many_68 rfl (lv_at hl 3 rfl) ?_
              exact hQ _ _ _ dX8_many_69 hf
      exact L24 N _ _ hf (lv_sub hl [1, 2, 3, 0] rfl)
    · exact K2  _ hf (lv_sub hl [] rfl)
theorem F_X8_shoot : CalF yX8_shoot cX8_shoot 5 (some .int) 3 := ⟨tw_539, tw_1, by decide +kernel⟩
set_option maxRecDepth 100000 in
set_option maxHeartbeats 4000000 in
theorem c_X8_shoot (l : Launch) (D : va_G) (cI cJ cZ cS : ClassId) (N : Nat) (oe_A oe_kept_A oe_standing_A pa_A pa_signs_A sc_A sh_A sh_looks_A sh_openBits_A bl_A bl_settings_A od_A od_quarters_A st_A st_talls_A st_pairs_A hw_A hw_cutsFrom_A hw_chosen_A pw_A pw_leaves_A pw_first_A : Nat) (oe_kept : Nat → Option Nat) (oe_standing : Nat → Int32) (pa_signs : Nat → Int32) (pa_count : Int32) (sc_people : Int32) (sc_bride : Int32) (sh_count : Int32) (sh_hands : Int32) (sh_looks : Nat → Int32) (sh_openBits : Nat → Int32) (bl_flash : Int32) (bl_settings : Nat → Int32) (od_tired : Int32) (od_quarters : Nat → Int32) (st_rows : Int32) (st_columns : Int32) (st_rise : Int32) (st_talls : Nat → Int32) (st_pairs : Nat → Int32) (st_changed : Int32) (hw_cutsFrom : Nat → Int32) (hw_chosen : Nat → Int32) (pw_leaves : Nat → Int64) (pw_first : Nat → Int32) (pw_people : Int32) (pw_count : Int32) (p1 : Int32) (p2 : Int32) (p3 : Int32) (r : Int32) (hf : f_X8_shoot N sc_people od_tired od_quarters p1 p2 p3 = some r) : RoC l D cI cJ cZ cS yX8_shoot cX8_shoot 5 (some .int) 3 71 (w_OE cI cJ cZ cS oe_A oe_kept_A oe_standing_A pa_A pa_signs_A sc_A sh_A sh_looks_A sh_openBits_A bl_A bl_settings_A od_A od_quarters_A st_A st_talls_A st_pairs_A hw_A hw_cutsFrom_A hw_chosen_A pw_A pw_leaves_A pw_first_A oe_kept oe_standing pa_signs pa_count sc_people sc_bride sh_count sh_hands sh_looks sh_openBits bl_flash bl_settings od_tired od_quarters st_rows st_columns st_rise st_talls st_pairs st_changed hw_cutsFrom hw_chosen pw_leaves pw_first pw_people pw_count) [.ref oe_A, .int p1, .int p2, .int p3] (some (.int r)) := by
  refine ro_in_i (own := RX8) (by decide +kernel) rfl (Nat.le_of_ble_eq_true rfl) ?_
  intro p e s m args below meth c ls Q E hQ hP hl
  obtain ⟨hx, hb, hml, hown, hts, hK, hN, hAO⟩ := id E
  have hl : lv_has ls 5 [(0, .ref oe_A), (1, .int p1), (2, .int p2), (3, .int p3)] := hl
  unfold f_X8_shoot at hf
  refine lv_iload_n (pc := 0) hx hb dX8_shoot_0 rfl (lv_at hl 1 rfl) ?_
  refine lv_iconst (pc := 1) (v := (0 : Int32)) hx hb dX8_shoot_1 (by decide) ?_
  refine lv_sipush (pc := 2) (v := (9999 : Int32)) hx hb dX8_shoot_2 (by decide) ?_
  obtain ⟨v1, hv5, hf⟩ := bd_e hf
  refine ro_Si (pc := 5) (As := [.int p1, .int (0 : Int32), .int (9999 : Int32)]) (rest := []) E (c_X8_within l D cI cJ cZ cS p1 (0 : Int32) (9999 : Int32) v1 hv5) F_X8_within tw_217 tw_218  va_P_nil ⟨by decide, by decide⟩ rfl hl.1 (Nat.le_of_ble_eq_true rfl) ⟨by decide, by decide⟩ rfl dX8_shoot_5 ?_
  obtain ⟨k2, hk2, hf⟩ := lc0_e hf
  have K2 : ∀  (ls : Array Slot), k2 = some r → lv_has ls 5 [] → W p l e (roR 3 71) s m args below meth c s.heap [] 0 0 Q (F0 m 21 ls []) := by
    intro  ls hf hl
    rw [hk2] at hf
    refine lv_bipush (pc := 21) (v := (-2 : Int32)) hx hb dX8_shoot_21 (by decide) ?_
    exact hQ _ _ _ dX8_shoot_23 hf
  refine r_if_eq (pc := 8) (tgt := 21) hx hb dX8_shoot_8 (by decide) hf (fun hf => ?_) (fun hf => ?_)
  · exact K2  _ hf (lv_sub hl [] rfl)
  · refine lv_iload_n (pc := 11) hx hb dX8_shoot_11 rfl (lv_at hl 2 rfl) ?_
    refine lv_iconst (pc := 12) (v := (1 : Int32)) hx hb dX8_shoot_12 (by decide) ?_
    refine lv_bipush (pc := 13) (v := (30 : Int32)) hx hb dX8_shoot_13 (by decide) ?_
    obtain ⟨v3, hv15, hf⟩ := bd_e hf
    refine ro_Si (pc := 15) (As := [.int p2, .int (1 : Int32), .int (30 : Int32)]) (rest := []) E (c_X8_within l D cI cJ cZ cS p2 (1 : Int32) (30 : Int32) v3 hv15) F_X8_within tw_217 tw_218  va_P_nil ⟨by decide, by decide⟩ rfl hl.1 (Nat.le_of_ble_eq_true rfl) ⟨by decide, by decide⟩ rfl dX8_shoot_15 ?_
    refine r_if_ne (pc := 18) (tgt := 24) hx hb dX8_shoot_18 (by decide) hf (fun hf => ?_) (fun hf => ?_)
    · refine lv_iload_n (pc := 24) hx hb dX8_shoot_24 rfl (lv_at hl 3 rfl) ?_
      refine lv_iconst (pc := 25) (v := (0 : Int32)) hx hb dX8_shoot_25 (by decide) ?_
      refine lv_iconst (pc := 26) (v := (1 : Int32)) hx hb dX8_shoot_26 (by decide) ?_
      obtain ⟨v4, hv27, hf⟩ := bd_e hf
      refine ro_Si (pc := 27) (As := [.int p3, .int (0 : Int32), .int (1 : Int32)]) (rest := []) E (c_X8_within l D cI cJ cZ cS p3 (0 : Int32) (1 : Int32) v4 hv27) F_X8_within tw_217 tw_218  va_P_nil ⟨by decide, by decide⟩ rfl hl.1 (Nat.le_of_ble_eq_true rfl) ⟨by decide, by decide⟩ rfl dX8_shoot_27 ?_
      refine r_if_ne (pc := 30) (tgt := 36) hx hb dX8_shoot_30 (by decide) hf (fun hf => ?_) (fun hf => ?_)
      · refine lv_aload_n (pc := 36) hx hb dX8_shoot_36 rfl (lv_at hl 0 rfl) ?_
        refine va_get (pc := 37) (D := D) (ci := 8) (v := .ref sc_A) (C := RX8) (T := TX8) (N := 6) hx hb hts inG8 hown hK hP 0 rfl rfl 1 (by decide) (hts _ tw_195) (fun _ h9 => h9) rfl dX8_shoot_37 ?_
        refine va_getN (pc := 40) (D := D) (ci := 5) (v := .ref od_A) (C := RX5) (T := TX5) (N := 6) hx hb hts inG5 hown hK hP 5 rfl rfl 4 (by decide) (va_Nw.use rfl (hN _ tn_17)) (fun _ h9 => h9) rfl dX8_shoot_40 ?_
        refine lv_iload_n (pc := 43) hx hb dX8_shoot_43 rfl (lv_at hl 1 rfl) ?_
        refine lv_iload_n (pc := 44) hx hb dX8_shoot_44 rfl (lv_at hl 2 rfl) ?_
        refine lv_aload_n (pc := 45) hx hb dX8_shoot_45 rfl (lv_at hl 0 rfl) ?_
        refine va_get (pc := 46) (D := D) (ci := 8) (v := .ref sc_A) (C := RX8) (T := TX8) (N := 6) hx hb hts inG8 hown hK hP 0 rfl rfl 1 (by decide) (hts _ tw_195) (fun _ h9 => h9) rfl dX8_shoot_46 ?_
        refine va_getN (pc := 49) (D := D) (ci := 5) (v := .int sc_people) (C := RX5) (T := TX5) (N := 6) hx hb hts inG5 hown hK hP 5 rfl rfl 0 (by decide) (va_Nw.use rfl (hN _ tn_13)) (fun _ h9 => h9) rfl dX8_shoot_49 ?_
        obtain ⟨v5, hv52, hf⟩ := bd_e hf
        refine ro_Vi (pc := 52) (As := [.int p1, .int p2, .int sc_people]) (rest := []) E (c_X2_drawShots l D cI cJ cZ cS N od_A od_quarters_A od_tired od_quarters p1 p2 sc_people v5 hv52) F_X2_drawShots rfl rfl tw_540 tw_541 tw_542 (hP.subm [11, 12] rfl) ⟨by decide, by decide⟩ rfl hl.1 (Nat.le_of_ble_eq_true rfl) ⟨by decide, by decide⟩ rfl dX8_shoot_52 ?_
        refine lv_istore (pc := 55) (lv' := [(4, .int v5), (0, .ref oe_A), (1, .int p1), (2, .int p2), (3, .int p3)]) hx hb dX8_shoot_55 hl (by decide) rfl (fun ls hl => ?_)
        refine lv_iload_n (pc := 57) hx hb dX8_shoot_57 rfl (lv_at hl 4 rfl) ?_
        refine lv_iconst (pc := 58) (v := (1 : Int32)) hx hb dX8_shoot_58 (by decide) ?_
        refine r_ic_ne (pc := 59) (tgt := 68) hx hb dX8_shoot_59 (by decide) hf (fun hf => ?_) (fun hf => ?_)
        · refine lv_iload (pc := 68) hx hb dX8_shoot_68 (lv_at hl 0 rfl) ?_
          refine r_if_ne (pc := 70) (tgt := 78) hx hb dX8_shoot_70 (by decide) hf (fun hf => ?_) (fun hf => ?_)
          · refine lv_iload (pc := 78) hx hb dX8_shoot_78 (lv_at hl 0 rfl) ?_
            obtain ⟨v6, hv80, hf⟩ := bd_e hf
            refine ro_Si (pc := 80) (As := [.int v5]) (rest := []) E (c_J6_numberOfTrailingZeros_0f7a4 l D cI cJ cZ cS v5 v6 hv80) F_J6_numberOfTrailingZeros_0f7a4 tw_545 tw_546  va_P_nil ⟨by decide, by decide⟩ rfl hl.1 (Nat.le_of_ble_eq_true rfl) ⟨by decide, by decide⟩ rfl dX8_shoot_80 ?_
            exact hQ _ _ _ dX8_shoot_83 hf
          · refine lv_bipush (pc := 73) (v := (-6 : Int32)) hx hb dX8_shoot_73 (by decide) ?_
            refine lv_goto (pc := 75) (tgt := 83) hx hb dX8_shoot_75 (by decide) ?_
            exact hQ _ _ _ dX8_shoot_83 hf
        · refine lv_iload (pc := 62) hx hb dX8_shoot_62 (lv_at hl 0 rfl) ?_
          obtain ⟨v7, hv64, hf⟩ := bd_e hf
          refine ro_Si (pc := 64) (As := [.int v5]) (rest := []) E (c_J6_bitCount_0f7a4 l D cI cJ cZ cS v5 v7 hv64) F_J6_bitCount_0f7a4 tw_488 tw_338  va_P_nil ⟨by decide, by decide⟩ rfl hl.1 (Nat.le_of_ble_eq_true rfl) ⟨by decide, by decide⟩ rfl dX8_shoot_64 ?_
          exact hQ _ _ _ dX8_shoot_67 hf
      · refine lv_bipush (pc := 33) (v := (-2 : Int32)) hx hb dX8_shoot_33 (by decide) ?_
        exact hQ _ _ _ dX8_shoot_35 hf
    · exact K2  _ hf (lv_sub hl [] rfl)
theorem F_X8_stair : CalF yX8_stair cX8_stair 3 (some .int) 2 := ⟨tw_552, tw_1, by decide +kernel⟩
set_option maxRecDepth 100000 in
set_option maxHeartbeats 4000000 in
theorem c_X8_stair (l : Launch) (D : va_G) (cI cJ cZ cS : ClassId) (oe_A oe_kept_A oe_standing_A pa_A pa_signs_A sc_A sh_A sh_looks_A sh_openBits_A bl_A bl_settings_A od_A od_quarters_A st_A st_talls_A st_pairs_A hw_A hw_cutsFrom_A hw_chosen_A pw_A pw_leaves_A pw_first_A : Nat) (oe_kept : Nat → Option Nat) (oe_standing : Nat → Int32) (pa_signs : Nat → Int32) (pa_count : Int32) (sc_people : Int32) (sc_bride : Int32) (sh_count : Int32) (sh_hands : Int32) (sh_looks : Nat → Int32) (sh_openBits : Nat → Int32) (bl_flash : Int32) (bl_settings : Nat → Int32) (od_tired : Int32) (od_quarters : Nat → Int32) (st_rows : Int32) (st_columns : Int32) (st_rise : Int32) (st_talls : Nat → Int32) (st_pairs : Nat → Int32) (st_changed : Int32) (hw_cutsFrom : Nat → Int32) (hw_chosen : Nat → Int32) (pw_leaves : Nat → Int64) (pw_first : Nat → Int32) (pw_people : Int32) (pw_count : Int32) (p1 : Int32) (p2 : Int32) (sz : Nat) (r : Int32) (r_st_rows : Int32) (r_st_columns : Int32) (r_st_changed : Int32) (hf : f_X8_stair st_rows st_columns st_changed p1 p2 = some (r, r_st_rows, r_st_columns, r_st_changed)) : RwC l D cI cJ cZ cS yX8_stair cX8_stair 3 (some .int) 2 42 (w_OE cI cJ cZ cS oe_A oe_kept_A oe_standing_A pa_A pa_signs_A sc_A sh_A sh_looks_A sh_openBits_A bl_A bl_settings_A od_A od_quarters_A st_A st_talls_A st_pairs_A hw_A hw_cutsFrom_A hw_chosen_A pw_A pw_leaves_A pw_first_A oe_kept oe_standing pa_signs pa_count sc_people sc_bride sh_count sh_hands sh_looks sh_openBits bl_flash bl_settings od_tired od_quarters st_rows st_columns st_rise st_talls st_pairs st_changed hw_cutsFrom hw_chosen pw_leaves pw_first pw_people pw_count) sz [.ref oe_A, .int p1, .int p2] (some (.int r)) (w_OE cI cJ cZ cS oe_A oe_kept_A oe_standing_A pa_A pa_signs_A sc_A sh_A sh_looks_A sh_openBits_A bl_A bl_settings_A od_A od_quarters_A st_A st_talls_A st_pairs_A hw_A hw_cutsFrom_A hw_chosen_A pw_A pw_leaves_A pw_first_A oe_kept oe_standing pa_signs pa_count sc_people sc_bride sh_count sh_hands sh_looks sh_openBits bl_flash bl_settings od_tired od_quarters r_st_rows r_st_columns st_rise st_talls st_pairs r_st_changed hw_cutsFrom hw_chosen pw_leaves pw_first pw_people pw_count) := by
  refine rw_in_i (own := RX8) (by decide +kernel) rfl (Nat.le_of_ble_eq_true rfl) ?_
  intro p e s m args below meth c ls Q A E hA hQ hP hD hS hl
  obtain ⟨hx, hb, hml, hown, hts, hK, hN, hAO⟩ := id E
  have hl : lv_has ls 3 [(0, .ref oe_A), (1, .int p1), (2, .int p2)] := hl
  unfold f_X8_stair at hf
  obtain ⟨H, hH⟩ : ∃ H, H = s.heap := ⟨_, rfl⟩
  obtain ⟨locs, hlocs⟩ : ∃ L : List Loc, L = [] := ⟨_, rfl⟩
  rw [show W p l e (roR 2 42) s m args below meth c s.heap [] 0 0 Q (F0 m 0 ls []) = W p l e (roR 2 42) s m args below meth c H locs 0 0 Q (F0 m 0 ls []) by rw [hH, hlocs]]
  replace hS : va_S A s.heap H locs := by rw [hH, hlocs]; exact hS
  replace hP : va_P D vwCl (w_OE cI cJ cZ cS oe_A oe_kept_A oe_standing_A pa_A pa_signs_A sc_A sh_A sh_looks_A sh_openBits_A bl_A bl_settings_A od_A od_quarters_A st_A st_talls_A st_pairs_A hw_A hw_cutsFrom_A hw_chosen_A pw_A pw_leaves_A pw_first_A oe_kept oe_standing pa_signs pa_count sc_people sc_bride sh_count sh_hands sh_looks sh_openBits bl_flash bl_settings od_tired od_quarters st_rows st_columns st_rise st_talls st_pairs st_changed hw_cutsFrom hw_chosen pw_leaves pw_first pw_people pw_count) H := by rw [hH]; exact hP
  clear hH hlocs
  refine lv_iload_n (pc := 0) hx hb dX8_stair_0 rfl (lv_at hl 1 rfl) ?_
  refine lv_iconst (pc := 1) (v := (1 : Int32)) hx hb dX8_stair_1 (by decide) ?_
  refine lv_iconst (pc := 2) (v := (3 : Int32)) hx hb dX8_stair_2 (by decide) ?_
  obtain ⟨v1, hv3, hf⟩ := bd_e hf
  refine ro_Si (pc := 3) (As := [.int p1, .int (1 : Int32), .int (3 : Int32)]) (rest := []) E (c_X8_within l D cI cJ cZ cS p1 (1 : Int32) (3 : Int32) v1 hv3) F_X8_within tw_217 tw_218  va_P_nil ⟨by decide, by decide⟩ rfl hl.1 (Nat.le_of_ble_eq_true rfl) ⟨by decide, by decide⟩ rfl dX8_stair_3 ?_
  obtain ⟨k2, hk2, hf⟩ := lc0_e hf
  have K2 : ∀  (H : Heap) (locs : List Loc) (ls : Array Slot), k2 = some (r, r_st_rows, r_st_columns, r_st_changed) → va_P D vwCl (w_OE cI cJ cZ cS oe_A oe_kept_A oe_standing_A pa_A pa_signs_A sc_A sh_A sh_looks_A sh_openBits_A bl_A bl_settings_A od_A od_quarters_A st_A st_talls_A st_pairs_A hw_A hw_cutsFrom_A hw_chosen_A pw_A pw_leaves_A pw_first_A oe_kept oe_standing pa_signs pa_count sc_people sc_bride sh_count sh_hands sh_looks sh_openBits bl_flash bl_settings od_tired od_quarters st_rows st_columns st_rise st_talls st_pairs st_changed hw_cutsFrom hw_chosen pw_leaves pw_first pw_people pw_count) H → va_D A (w_OE cI cJ cZ cS oe_A oe_kept_A oe_standing_A pa_A pa_signs_A sc_A sh_A sh_looks_A sh_openBits_A bl_A bl_settings_A od_A od_quarters_A st_A st_talls_A st_pairs_A hw_A hw_cutsFrom_A hw_chosen_A pw_A pw_leaves_A pw_first_A oe_kept oe_standing pa_signs pa_count sc_people sc_bride sh_count sh_hands sh_looks sh_openBits bl_flash bl_settings od_tired od_quarters st_rows st_columns st_rise st_talls st_pairs st_changed hw_cutsFrom hw_chosen pw_leaves pw_first pw_people pw_count) → va_S A s.heap H locs → lv_has ls 3 [] → W p l e (roR 2 42) s m args below meth c H locs 0 0 Q (F0 m 18 ls []) := by
    intro  H locs ls hf hP hD hS hl
    rw [hk2] at hf
    refine lv_bipush (pc := 18) (v := (-2 : Int32)) hx hb dX8_stair_18 (by decide) ?_
    cases hf
    exact hQ _ _ _ _ _ dX8_stair_20 rfl hP hD hS
  refine r_if_eq (pc := 6) (tgt := 18) hx hb dX8_stair_6 (by decide) hf (fun hf => ?_) (fun hf => ?_)
  · exact K2  _ _ _ hf hP hD hS (lv_sub hl [] rfl)
  · refine lv_iload_n (pc := 9) hx hb dX8_stair_9 rfl (lv_at hl 2 rfl) ?_
    refine lv_iconst (pc := 10) (v := (1 : Int32)) hx hb dX8_stair_10 (by decide) ?_
    refine lv_iconst (pc := 11) (v := (4 : Int32)) hx hb dX8_stair_11 (by decide) ?_
    obtain ⟨v3, hv12, hf⟩ := bd_e hf
    refine ro_Si (pc := 12) (As := [.int p2, .int (1 : Int32), .int (4 : Int32)]) (rest := []) E (c_X8_within l D cI cJ cZ cS p2 (1 : Int32) (4 : Int32) v3 hv12) F_X8_within tw_217 tw_218  va_P_nil ⟨by decide, by decide⟩ rfl hl.1 (Nat.le_of_ble_eq_true rfl) ⟨by decide, by decide⟩ rfl dX8_stair_12 ?_
    refine r_if_ne (pc := 15) (tgt := 21) hx hb dX8_stair_15 (by decide) hf (fun hf => ?_) (fun hf => ?_)
    · refine lv_iload_n (pc := 21) hx hb dX8_stair_21 rfl (lv_at hl 1 rfl) ?_
      refine lv_iload_n (pc := 22) hx hb dX8_stair_22 rfl (lv_at hl 2 rfl) ?_
      refine lv_imul (pc := 23) hx hb dX8_stair_23 ?_
      refine lv_bipush (pc := 24) (v := (8 : Int32)) hx hb dX8_stair_24 (by decide) ?_
      refine r_ic_le (pc := 26) (tgt := 32) hx hb dX8_stair_26 (by decide) hf (fun hf => ?_) (fun hf => ?_)
      · refine lv_aload_n (pc := 32) hx hb dX8_stair_32 rfl (lv_at hl 0 rfl) ?_
        refine va_get (pc := 33) (D := D) (ci := 8) (v := .ref sc_A) (C := RX8) (T := TX8) (N := 6) hx hb hts inG8 hown hK hP 0 rfl rfl 1 (by decide) (hts _ tw_195) (fun _ h9 => h9) rfl dX8_stair_33 ?_
        refine va_getN (pc := 36) (D := D) (ci := 5) (v := .ref st_A) (C := RX5) (T := TX5) (N := 6) hx hb hts inG5 hown hK hP 5 rfl rfl 5 (by decide) (va_Nw.use rfl (hN _ tn_18)) (fun _ h9 => h9) rfl dX8_stair_36 ?_
        refine lv_iload_n (pc := 39) hx hb dX8_stair_39 rfl (lv_at hl 1 rfl) ?_
        refine lv_iload_n (pc := 40) hx hb dX8_stair_40 rfl (lv_at hl 2 rfl) ?_
        obtain ⟨⟨v4, st_rows_5, st_columns_6, st_changed_7⟩, hv41, hf⟩ := bd_e hf
        refine rw_Vi (pc := 41) (As := [.int p1, .int p2]) (rest := []) (wr := [(oe_A, .inr (8, [.ref pa_A, .ref sc_A, .ref oe_kept_A, .ref hw_A, .ref pw_A, .ref oe_standing_A])), (oe_kept_A, .inl (cS, 2, .inr (.inr (.inr (.inr oe_kept))))), (oe_standing_A, .inl (cI, 8, .inl oe_standing)), (pa_A, .inr (3, [.ref pa_signs_A, .int pa_count])), (pa_signs_A, .inl (cI, 40, .inl pa_signs)), (sc_A, .inr (5, [.int sc_people, .int sc_bride, .ref sh_A, .ref bl_A, .ref od_A, .ref st_A])), (sh_A, .inr (6, [.int sh_count, .int sh_hands, .ref sh_looks_A, .ref sh_openBits_A])), (sh_looks_A, .inl (cI, 80, .inl sh_looks)), (sh_openBits_A, .inl (cI, 10, .inl sh_openBits)), (bl_A, .inr (0, [.int bl_flash, .ref bl_settings_A])), (bl_settings_A, .inl (cI, 24, .inl bl_settings)), (od_A, .inr (2, [.int od_tired, .ref od_quarters_A])), (od_quarters_A, .inl (cI, 8, .inl od_quarters)), (hw_A, .inr (1, [.ref hw_cutsFrom_A, .ref hw_chosen_A])), (hw_cutsFrom_A, .inl (cI, 80, .inl hw_cutsFrom)), (hw_chosen_A, .inl (cI, 8, .inl hw_chosen)), (pw_A, .inr (4, [.ref pw_leaves_A, .ref pw_first_A, .int pw_people, .int pw_count])), (pw_leaves_A, .inl (cJ, 64, .inr (.inl pw_leaves))), (pw_first_A, .inl (cI, 8, .inl pw_first))]) (wn := (w_OE cI cJ cZ cS oe_A oe_kept_A oe_standing_A pa_A pa_signs_A sc_A sh_A sh_looks_A sh_openBits_A bl_A bl_settings_A od_A od_quarters_A st_A st_talls_A st_pairs_A hw_A hw_cutsFrom_A hw_chosen_A pw_A pw_leaves_A pw_first_A oe_kept oe_standing pa_signs pa_count sc_people sc_bride sh_count sh_hands sh_looks sh_openBits bl_flash bl_settings od_tired od_quarters st_rows_5 st_columns_6 st_rise st_talls st_pairs st_changed_7 hw_cutsFrom hw_chosen pw_leaves pw_first pw_people pw_count)) E (c_X7_build l D cI cJ cZ cS st_A st_talls_A st_pairs_A st_rows st_columns st_rise st_talls st_pairs st_changed p1 p2 H.size v4 st_rows_5 st_columns_6 st_changed_7 hv41) F_X7_build rfl rfl tw_553 tw_554 tw_555 hP hD hS hA [13, 14, 15] [0, 1, 2, 3, 4, 5, 6, 7, 8, 9, 10, 11, 12, 16, 17, 18, 19, 20, 21] [0, 1, 2, 3, 4, 5, 6, 7, 8, 9, 10, 11, 12, 19, 20, 21, 13, 14, 15, 16, 17, 18] rfl rfl (by decide) (by decide) (by decide) rfl (by decide) ⟨by decide, by decide⟩ rfl hl.1 (Nat.le_of_ble_eq_true rfl) ⟨by decide, by decide⟩ rfl dX8_stair_41 (fun H locs hP hD hS => ?_)
        cases hf
        exact hQ _ _ _ _ _ dX8_stair_44 rfl hP hD hS
      · refine lv_bipush (pc := 29) (v := (-2 : Int32)) hx hb dX8_stair_29 (by decide) ?_
        cases hf
        exact hQ _ _ _ _ _ dX8_stair_31 rfl hP hD hS
    · exact K2  _ _ _ hf hP hD hS (lv_sub hl [] rfl)
