theorem F_X8_shot : CalF yX8_shot cX8_shot 2 (some .int) 0 := ⟨tw_298, tw_1, by decide +kernel⟩
set_option maxRecDepth 100000 in
set_option maxHeartbeats 4000000 in
theorem c_X8_shot (l : Launch) (D : va_G) (cI cJ cZ cS : ClassId) (N : Nat) (oe_A oe_kept_A oe_standing_A pa_A pa_signs_A sc_A sh_A sh_looks_A sh_openBits_A bl_A bl_settings_A od_A od_quarters_A st_A st_talls_A st_pairs_A hw_A hw_cutsFrom_A hw_chosen_A pw_A pw_leaves_A pw_first_A : Nat) (oe_kept : Nat → Option Nat) (oe_standing : Nat → Int32) (pa_signs : Nat → Int32) (pa_count : Int32) (sc_people : Int32) (sc_bride : Int32) (sh_count : Int32) (sh_hands : Int32) (sh_looks : Nat → Int32) (sh_openBits : Nat → Int32) (bl_flash : Int32) (bl_settings : Nat → Int32) (od_tired : Int32) (od_quarters : Nat → Int32) (st_rows : Int32) (st_columns : Int32) (st_rise : Int32) (st_talls : Nat → Int32) (st_pairs : Nat → Int32) (st_changed : Int32) (hw_cutsFrom : Nat → Int32) (hw_chosen : Nat → Int32) (pw_leaves : Nat → Int64) (pw_first : Nat → Int32) (pw_people : Int32) (pw_count : Int32) (sz : Nat) (r : Int32) (r_pa_count : Int32) (r_sh_count : Int32) (r_sh_looks : Nat → Int32) (r_sh_openBits : Nat → Int32) (hf : f_X8_shot N pa_signs pa_count sc_people sh_count sh_looks sh_openBits = some (r, r_pa_count, r_sh_count, r_sh_looks, r_sh_openBits)) : RwC l D cI cJ cZ cS yX8_shot cX8_shot 2 (some .int) 3 64 (w_OE cI cJ cZ cS oe_A oe_kept_A oe_standing_A pa_A pa_signs_A sc_A sh_A sh_looks_A sh_openBits_A bl_A bl_settings_A od_A od_quarters_A st_A st_talls_A st_pairs_A hw_A hw_cutsFrom_A hw_chosen_A pw_A pw_leaves_A pw_first_A oe_kept oe_standing pa_signs pa_count sc_people sc_bride sh_count sh_hands sh_looks sh_openBits bl_flash bl_settings od_tired od_quarters st_rows st_columns st_rise st_talls st_pairs st_changed hw_cutsFrom hw_chosen pw_leaves pw_first pw_people pw_count) sz [.ref oe_A] (some (.int r)) (w_OE cI cJ cZ cS oe_A oe_kept_A oe_standing_A pa_A pa_signs_A sc_A sh_A sh_looks_A sh_openBits_A bl_A bl_settings_A od_A od_quarters_A st_A st_talls_A st_pairs_A hw_A hw_cutsFrom_A hw_chosen_A pw_A pw_leaves_A pw_first_A oe_kept oe_standing pa_signs r_pa_count sc_people sc_bride r_sh_count sh_hands r_sh_looks r_sh_openBits bl_flash bl_settings od_tired od_quarters st_rows st_columns st_rise st_talls st_pairs st_changed hw_cutsFrom hw_chosen pw_leaves pw_first pw_people pw_count) := by
  refine rw_in_i (own := RX8) (by decide +kernel) rfl (Nat.le_of_ble_eq_true rfl) ?_
  intro p e s m args below meth c ls Q A E hA hQ hP hD hS hl
  obtain ⟨hx, hb, hml, hown, hts, hK, hN, hAO⟩ := id E
  have hl : lv_has ls 2 [(0, .ref oe_A)] := hl
  unfold f_X8_shot at hf
  obtain ⟨H, hH⟩ : ∃ H, H = s.heap := ⟨_, rfl⟩
  obtain ⟨locs, hlocs⟩ : ∃ L : List Loc, L = [] := ⟨_, rfl⟩
  rw [show W p l e (roR 3 64) s m args below meth c s.heap [] 0 0 Q (F0 m 0 ls []) = W p l e (roR 3 64) s m args below meth c H locs 0 0 Q (F0 m 0 ls []) by rw [hH, hlocs]]
  replace hS : va_S A s.heap H locs := by rw [hH, hlocs]; exact hS
  replace hP : va_P D vwCl (w_OE cI cJ cZ cS oe_A oe_kept_A oe_standing_A pa_A pa_signs_A sc_A sh_A sh_looks_A sh_openBits_A bl_A bl_settings_A od_A od_quarters_A st_A st_talls_A st_pairs_A hw_A hw_cutsFrom_A hw_chosen_A pw_A pw_leaves_A pw_first_A oe_kept oe_standing pa_signs pa_count sc_people sc_bride sh_count sh_hands sh_looks sh_openBits bl_flash bl_settings od_tired od_quarters st_rows st_columns st_rise st_talls st_pairs st_changed hw_cutsFrom hw_chosen pw_leaves pw_first pw_people pw_count) H := by rw [hH]; exact hP
  clear hH hlocs
  refine lv_aload_n (pc := 0) hx hb dX8_shot_0 rfl (lv_at hl 0 rfl) ?_
  refine va_get (pc := 1) (D := D) (ci := 8) (v := .ref pa_A) (C := RX8) (T := TX8) (N := 6) hx hb hts inG8 hown hK hP 0 rfl rfl 0 (by decide) (hts _ tw_194) (fun _ h9 => h9) rfl dX8_shot_1 ?_
  refine lv_aload_n (pc := 4) hx hb dX8_shot_4 rfl (lv_at hl 0 rfl) ?_
  refine va_get (pc := 5) (D := D) (ci := 8) (v := .ref sc_A) (C := RX8) (T := TX8) (N := 6) hx hb hts inG8 hown hK hP 0 rfl rfl 1 (by decide) (hts _ tw_195) (fun _ h9 => h9) rfl dX8_shot_5 ?_
  refine va_getN (pc := 8) (D := D) (ci := 5) (v := .int sc_people) (C := RX5) (T := TX5) (N := 6) hx hb hts inG5 hown hK hP 5 rfl rfl 0 (by decide) (va_Nw.use rfl (hN _ tn_13)) (fun _ h9 => h9) rfl dX8_shot_8 ?_
  obtain ⟨v1, hv11, hf⟩ := bd_e hf
  refine ro_Vi (pc := 11) (As := [.int sc_people]) (rest := []) E (c_X3_faultAsShot l D cI cJ cZ cS N pa_A pa_signs_A pa_signs pa_count sc_people v1 hv11) F_X3_faultAsShot rfl rfl tw_264 tw_265 tw_266 (hP.subm [3, 4] rfl) ⟨by decide, by decide⟩ rfl hl.1 (Nat.le_of_ble_eq_true rfl) ⟨by decide, by decide⟩ rfl dX8_shot_11 ?_
  refine lv_bipush (pc := 14) (v := (-6 : Int32)) hx hb dX8_shot_14 (by decide) ?_
  refine r_ic_eq (pc := 16) (tgt := 22) hx hb dX8_shot_16 (by decide) hf (fun hf => ?_) (fun hf => ?_)
  · refine lv_aload_n (pc := 22) hx hb dX8_shot_22 rfl (lv_at hl 0 rfl) ?_
    refine va_get (pc := 23) (D := D) (ci := 8) (v := .ref sc_A) (C := RX8) (T := TX8) (N := 6) hx hb hts inG8 hown hK hP 0 rfl rfl 1 (by decide) (hts _ tw_195) (fun _ h9 => h9) rfl dX8_shot_23 ?_
    refine va_getN (pc := 26) (D := D) (ci := 5) (v := .ref sh_A) (C := RX5) (T := TX5) (N := 6) hx hb hts inG5 hown hK hP 5 rfl rfl 2 (by decide) (va_Nw.use rfl (hN _ tn_15)) (fun _ h9 => h9) rfl dX8_shot_26 ?_
    obtain ⟨v2, hv29, hf⟩ := bd_e hf
    refine ro_Vi (pc := 29) (As := []) (rest := []) E (c_X6_isFull l D cI cJ cZ cS sh_A sh_looks_A sh_openBits_A sh_count sh_hands sh_looks sh_openBits v2 hv29) F_X6_isFull rfl rfl tw_299 tw_300 tw_301 (hP.subm [6, 7, 8] rfl) ⟨by decide, by decide⟩ rfl hl.1 (Nat.le_of_ble_eq_true rfl) ⟨by decide, by decide⟩ rfl dX8_shot_29 ?_
    refine r_if_eq (pc := 32) (tgt := 38) hx hb dX8_shot_32 (by decide) hf (fun hf => ?_) (fun hf => ?_)
    · refine lv_aload_n (pc := 38) hx hb dX8_shot_38 rfl (lv_at hl 0 rfl) ?_
      refine va_get (pc := 39) (D := D) (ci := 8) (v := .ref sc_A) (C := RX8) (T := TX8) (N := 6) hx hb hts inG8 hown hK hP 0 rfl rfl 1 (by decide) (hts _ tw_195) (fun _ h9 => h9) rfl dX8_shot_39 ?_
      refine va_getN (pc := 42) (D := D) (ci := 5) (v := .ref sh_A) (C := RX5) (T := TX5) (N := 6) hx hb hts inG5 hown hK hP 5 rfl rfl 2 (by decide) (va_Nw.use rfl (hN _ tn_15)) (fun _ h9 => h9) rfl dX8_shot_42 ?_
      refine lv_aload_n (pc := 45) hx hb dX8_shot_45 rfl (lv_at hl 0 rfl) ?_
      refine va_get (pc := 46) (D := D) (ci := 8) (v := .ref pa_A) (C := RX8) (T := TX8) (N := 6) hx hb hts inG8 hown hK hP 0 rfl rfl 0 (by decide) (hts _ tw_194) (fun _ h9 => h9) rfl dX8_shot_46 ?_
      refine lv_aload_n (pc := 49) hx hb dX8_shot_49 rfl (lv_at hl 0 rfl) ?_
      refine va_get (pc := 50) (D := D) (ci := 8) (v := .ref sc_A) (C := RX8) (T := TX8) (N := 6) hx hb hts inG8 hown hK hP 0 rfl rfl 1 (by decide) (hts _ tw_195) (fun _ h9 => h9) rfl dX8_shot_50 ?_
      refine va_getN (pc := 53) (D := D) (ci := 5) (v := .int sc_people) (C := RX5) (T := TX5) (N := 6) hx hb hts inG5 hown hK hP 5 rfl rfl 0 (by decide) (va_Nw.use rfl (hN _ tn_13)) (fun _ h9 => h9) rfl dX8_shot_53 ?_
      obtain ⟨⟨v3, sh_count_4, sh_looks_5, sh_openBits_6⟩, hv56, hf⟩ := bd_e hf
      refine rw_Vi (pc := 56) (As := [.ref pa_A, .int sc_people]) (rest := []) (wr := [(oe_A, .inr (8, [.ref pa_A, .ref sc_A, .ref oe_kept_A, .ref hw_A, .ref pw_A, .ref oe_standing_A])), (oe_kept_A, .inl (cS, 2, .inr (.inr (.inr (.inr oe_kept))))), (oe_standing_A, .inl (cI, 8, .inl oe_standing)), (sc_A, .inr (5, [.int sc_people, .int sc_bride, .ref sh_A, .ref bl_A, .ref od_A, .ref st_A])), (bl_A, .inr (0, [.int bl_flash, .ref bl_settings_A])), (bl_settings_A, .inl (cI, 24, .inl bl_settings)), (od_A, .inr (2, [.int od_tired, .ref od_quarters_A])), (od_quarters_A, .inl (cI, 8, .inl od_quarters)), (st_A, .inr (7, [.int st_rows, .int st_columns, .int st_rise, .ref st_talls_A, .ref st_pairs_A, .int st_changed])), (st_talls_A, .inl (cI, 8, .inl st_talls)), (st_pairs_A, .inl (cI, 64, .inl st_pairs)), (hw_A, .inr (1, [.ref hw_cutsFrom_A, .ref hw_chosen_A])), (hw_cutsFrom_A, .inl (cI, 80, .inl hw_cutsFrom)), (hw_chosen_A, .inl (cI, 8, .inl hw_chosen)), (pw_A, .inr (4, [.ref pw_leaves_A, .ref pw_first_A, .int pw_people, .int pw_count])), (pw_leaves_A, .inl (cJ, 64, .inr (.inl pw_leaves))), (pw_first_A, .inl (cI, 8, .inl pw_first))]) (wn := (w_OE cI cJ cZ cS oe_A oe_kept_A oe_standing_A pa_A pa_signs_A sc_A sh_A sh_looks_A sh_openBits_A bl_A bl_settings_A od_A od_quarters_A st_A st_talls_A st_pairs_A hw_A hw_cutsFrom_A hw_chosen_A pw_A pw_leaves_A pw_first_A oe_kept oe_standing pa_signs pa_count sc_people sc_bride sh_count_4 sh_hands sh_looks_5 sh_openBits_6 bl_flash bl_settings od_tired od_quarters st_rows st_columns st_rise st_talls st_pairs st_changed hw_cutsFrom hw_chosen pw_leaves pw_first pw_people pw_count)) E (c_X6_take l D cI cJ cZ cS N sh_A sh_looks_A sh_openBits_A pa_A pa_signs_A sh_count sh_hands sh_looks sh_openBits pa_signs pa_count sc_people H.size v3 sh_count_4 sh_looks_5 sh_openBits_6 hv56) F_X6_take rfl rfl tw_303 tw_304 tw_305 hP hD hS hA [6, 7, 8, 3, 4] [0, 1, 2, 5, 9, 10, 11, 12, 13, 14, 15, 16, 17, 18, 19, 20, 21] [0, 1, 2, 20, 21, 3, 17, 18, 19, 4, 5, 6, 7, 8, 9, 10, 11, 12, 13, 14, 15, 16] rfl rfl (by decide) (by decide) (by decide) rfl (by decide) ⟨by decide, by decide⟩ rfl hl.1 (Nat.le_of_ble_eq_true rfl) ⟨by decide, by decide⟩ rfl dX8_shot_56 (fun H locs hP hD hS => ?_)
      refine lv_istore_n (pc := 59) (lv' := [(1, .int v3), (0, .ref oe_A)]) hx hb dX8_shot_59 rfl hl (by decide) rfl (fun ls hl => ?_)
      refine lv_aload_n (pc := 60) hx hb dX8_shot_60 rfl (lv_at hl 1 rfl) ?_
      refine va_get (pc := 61) (D := D) (ci := 8) (v := .ref pa_A) (C := RX8) (T := TX8) (N := 6) hx hb hts inG8 hown hK hP 0 rfl rfl 0 (by decide) (hts _ tw_194) (fun _ h9 => h9) rfl dX8_shot_61 ?_
      obtain ⟨⟨v7, pa_count_8⟩, hv64, hf⟩ := bd_e hf
      refine rw_Vi (pc := 64) (As := []) (rest := []) (wr := [(oe_A, .inr (8, [.ref pa_A, .ref sc_A, .ref oe_kept_A, .ref hw_A, .ref pw_A, .ref oe_standing_A])), (oe_kept_A, .inl (cS, 2, .inr (.inr (.inr (.inr oe_kept))))), (oe_standing_A, .inl (cI, 8, .inl oe_standing)), (sc_A, .inr (5, [.int sc_people, .int sc_bride, .ref sh_A, .ref bl_A, .ref od_A, .ref st_A])), (sh_A, .inr (6, [.int sh_count_4, .int sh_hands, .ref sh_looks_A, .ref sh_openBits_A])), (sh_looks_A, .inl (cI, 80, .inl sh_looks_5)), (sh_openBits_A, .inl (cI, 10, .inl sh_openBits_6)), (bl_A, .inr (0, [.int bl_flash, .ref bl_settings_A])), (bl_settings_A, .inl (cI, 24, .inl bl_settings)), (od_A, .inr (2, [.int od_tired, .ref od_quarters_A])), (od_quarters_A, .inl (cI, 8, .inl od_quarters)), (st_A, .inr (7, [.int st_rows, .int st_columns, .int st_rise, .ref st_talls_A, .ref st_pairs_A, .int st_changed])), (st_talls_A, .inl (cI, 8, .inl st_talls)), (st_pairs_A, .inl (cI, 64, .inl st_pairs)), (hw_A, .inr (1, [.ref hw_cutsFrom_A, .ref hw_chosen_A])), (hw_cutsFrom_A, .inl (cI, 80, .inl hw_cutsFrom)), (hw_chosen_A, .inl (cI, 8, .inl hw_chosen)), (pw_A, .inr (4, [.ref pw_leaves_A, .ref pw_first_A, .int pw_people, .int pw_count])), (pw_leaves_A, .inl (cJ, 64, .inr (.inl pw_leaves))), (pw_first_A, .inl (cI, 8, .inl pw_first))]) (wn := (w_OE cI cJ cZ cS oe_A oe_kept_A oe_standing_A pa_A pa_signs_A sc_A sh_A sh_looks_A sh_openBits_A bl_A bl_settings_A od_A od_quarters_A st_A st_talls_A st_pairs_A hw_A hw_cutsFrom_A hw_chosen_A pw_A pw_leaves_A pw_first_A oe_kept oe_standing pa_signs pa_count_8 sc_people sc_bride sh_count_4 sh_hands sh_looks_5 sh_openBits_6 bl_flash bl_settings od_tired od_quarters st_rows st_columns st_rise st_talls st_pairs st_changed hw_cutsFrom hw_chosen pw_leaves pw_first pw_people pw_count)) E (c_X3_clear l D cI cJ cZ cS pa_A pa_signs_A pa_signs pa_count H.size v7 pa_count_8 hv64) F_X3_clear rfl rfl tw_256 tw_257 tw_258 hP hD hS hA [3, 4] [0, 1, 2, 5, 6, 7, 8, 9, 10, 11, 12, 13, 14, 15, 16, 17, 18, 19, 20, 21] [0, 1, 2, 20, 21, 3, 4, 5, 6, 7, 8, 9, 10, 11, 12, 13, 14, 15, 16, 17, 18, 19] rfl rfl (by decide) (by decide) (by decide) rfl (by decide) ⟨by decide, by decide⟩ rfl hl.1 (Nat.le_of_ble_eq_true rfl) ⟨by decide, by decide⟩ rfl dX8_shot_64 (fun H locs hP hD hS => ?_)
      refine lv_pop (pc := 67) hx hb dX8_shot_67 rfl ?_
      refine lv_iload_n (pc := 68) hx hb dX8_shot_68 rfl (lv_at hl 0 rfl) ?_
      cases hf
      exact hQ _ _ _ _ _ dX8_shot_69 rfl hP hD hS
    · refine lv_bipush (pc := 35) (v := (-4 : Int32)) hx hb dX8_shot_35 (by decide) ?_
      cases hf
      exact hQ _ _ _ _ _ dX8_shot_37 rfl hP hD hS
  · refine lv_bipush (pc := 19) (v := (-5 : Int32)) hx hb dX8_shot_19 (by decide) ?_
    cases hf
    exact hQ _ _ _ _ _ dX8_shot_21 rfl hP hD hS
theorem F_X8_look : CalF yX8_look cX8_look 3 (some .int) 2 := ⟨tw_312, tw_1, by decide +kernel⟩
set_option maxRecDepth 100000 in
set_option maxHeartbeats 4000000 in
theorem c_X8_look (l : Launch) (D : va_G) (cI cJ cZ cS : ClassId) (oe_A oe_kept_A oe_standing_A pa_A pa_signs_A sc_A sh_A sh_looks_A sh_openBits_A bl_A bl_settings_A od_A od_quarters_A st_A st_talls_A st_pairs_A hw_A hw_cutsFrom_A hw_chosen_A pw_A pw_leaves_A pw_first_A : Nat) (oe_kept : Nat → Option Nat) (oe_standing : Nat → Int32) (pa_signs : Nat → Int32) (pa_count : Int32) (sc_people : Int32) (sc_bride : Int32) (sh_count : Int32) (sh_hands : Int32) (sh_looks : Nat → Int32) (sh_openBits : Nat → Int32) (bl_flash : Int32) (bl_settings : Nat → Int32) (od_tired : Int32) (od_quarters : Nat → Int32) (st_rows : Int32) (st_columns : Int32) (st_rise : Int32) (st_talls : Nat → Int32) (st_pairs : Nat → Int32) (st_changed : Int32) (hw_cutsFrom : Nat → Int32) (hw_chosen : Nat → Int32) (pw_leaves : Nat → Int64) (pw_first : Nat → Int32) (pw_people : Int32) (pw_count : Int32) (p1 : Int32) (p2 : Int32) (r : Int32) (hf : f_X8_look sc_people sh_count sh_looks p1 p2 = some r) : RoC l D cI cJ cZ cS yX8_look cX8_look 3 (some .int) 1 22 (w_OE cI cJ cZ cS oe_A oe_kept_A oe_standing_A pa_A pa_signs_A sc_A sh_A sh_looks_A sh_openBits_A bl_A bl_settings_A od_A od_quarters_A st_A st_talls_A st_pairs_A hw_A hw_cutsFrom_A hw_chosen_A pw_A pw_leaves_A pw_first_A oe_kept oe_standing pa_signs pa_count sc_people sc_bride sh_count sh_hands sh_looks sh_openBits bl_flash bl_settings od_tired od_quarters st_rows st_columns st_rise st_talls st_pairs st_changed hw_cutsFrom hw_chosen pw_leaves pw_first pw_people pw_count) [.ref oe_A, .int p1, .int p2] (some (.int r)) := by
  refine ro_in_i (own := RX8) (by decide +kernel) rfl (Nat.le_of_ble_eq_true rfl) ?_
  intro p e s m args below meth c ls Q E hQ hP hl
  obtain ⟨hx, hb, hml, hown, hts, hK, hN, hAO⟩ := id E
  have hl : lv_has ls 3 [(0, .ref oe_A), (1, .int p1), (2, .int p2)] := hl
  unfold f_X8_look at hf
  refine lv_aload_n (pc := 0) hx hb dX8_look_0 rfl (lv_at hl 0 rfl) ?_
  refine va_get (pc := 1) (D := D) (ci := 8) (v := .ref sc_A) (C := RX8) (T := TX8) (N := 6) hx hb hts inG8 hown hK hP 0 rfl rfl 1 (by decide) (hts _ tw_195) (fun _ h9 => h9) rfl dX8_look_1 ?_
  refine va_getN (pc := 4) (D := D) (ci := 5) (v := .ref sh_A) (C := RX5) (T := TX5) (N := 6) hx hb hts inG5 hown hK hP 5 rfl rfl 2 (by decide) (va_Nw.use rfl (hN _ tn_15)) (fun _ h9 => h9) rfl dX8_look_4 ?_
  refine lv_iload_n (pc := 7) hx hb dX8_look_7 rfl (lv_at hl 1 rfl) ?_
  obtain ⟨v1, hv8, hf⟩ := bd_e hf
  refine ro_Vi (pc := 8) (As := [.int p1]) (rest := []) E (c_X6_has l D cI cJ cZ cS sh_A sh_looks_A sh_openBits_A sh_count sh_hands sh_looks sh_openBits p1 v1 hv8) F_X6_has rfl rfl tw_313 tw_314 tw_315 (hP.subm [6, 7, 8] rfl) ⟨by decide, by decide⟩ rfl hl.1 (Nat.le_of_ble_eq_true rfl) ⟨by decide, by decide⟩ rfl dX8_look_8 ?_
  refine r_if_eq (pc := 11) (tgt := 25) hx hb dX8_look_11 (by decide) hf (fun hf => ?_) (fun hf => ?_)
  · refine lv_iconst (pc := 25) (v := (-1 : Int32)) hx hb dX8_look_25 (by decide) ?_
    exact hQ _ _ _ dX8_look_26 hf
  · refine lv_aload_n (pc := 14) hx hb dX8_look_14 rfl (lv_at hl 0 rfl) ?_
    refine va_get (pc := 15) (D := D) (ci := 8) (v := .ref sc_A) (C := RX8) (T := TX8) (N := 6) hx hb hts inG8 hown hK hP 0 rfl rfl 1 (by decide) (hts _ tw_195) (fun _ h9 => h9) rfl dX8_look_15 ?_
    refine lv_iload_n (pc := 18) hx hb dX8_look_18 rfl (lv_at hl 2 rfl) ?_
    obtain ⟨v2, hv19, hf⟩ := bd_e hf
    refine ro_Vi (pc := 19) (As := [.int p2]) (rest := []) E (c_X5_has l D cI cJ cZ cS sc_A sh_A bl_A od_A st_A sc_people sc_bride p2 v2 hv19) F_X5_has rfl rfl tw_235 tw_236 tw_237 (hP.subm [5] rfl) ⟨by decide, by decide⟩ rfl hl.1 (Nat.le_of_ble_eq_true rfl) ⟨by decide, by decide⟩ rfl dX8_look_19 ?_
    refine r_if_ne (pc := 22) (tgt := 27) hx hb dX8_look_22 (by decide) hf (fun hf => ?_) (fun hf => ?_)
    · refine lv_aload_n (pc := 27) hx hb dX8_look_27 rfl (lv_at hl 0 rfl) ?_
      refine va_get (pc := 28) (D := D) (ci := 8) (v := .ref sc_A) (C := RX8) (T := TX8) (N := 6) hx hb hts inG8 hown hK hP 0 rfl rfl 1 (by decide) (hts _ tw_195) (fun _ h9 => h9) rfl dX8_look_28 ?_
      refine va_getN (pc := 31) (D := D) (ci := 5) (v := .ref sh_A) (C := RX5) (T := TX5) (N := 6) hx hb hts inG5 hown hK hP 5 rfl rfl 2 (by decide) (va_Nw.use rfl (hN _ tn_15)) (fun _ h9 => h9) rfl dX8_look_31 ?_
      refine lv_iload_n (pc := 34) hx hb dX8_look_34 rfl (lv_at hl 1 rfl) ?_
      refine lv_iload_n (pc := 35) hx hb dX8_look_35 rfl (lv_at hl 2 rfl) ?_
      obtain ⟨v3, hv36, hf⟩ := bd_e hf
      refine ro_Vi (pc := 36) (As := [.int p1, .int p2]) (rest := []) E (c_X6_lookOf l D cI cJ cZ cS sh_A sh_looks_A sh_openBits_A sh_count sh_hands sh_looks sh_openBits p1 p2 v3 hv36) F_X6_lookOf rfl rfl tw_317 tw_318 tw_319 (hP.subm [6, 7, 8] rfl) ⟨by decide, by decide⟩ rfl hl.1 (Nat.le_of_ble_eq_true rfl) ⟨by decide, by decide⟩ rfl dX8_look_36 ?_
      exact hQ _ _ _ dX8_look_39 hf
    · refine lv_iconst (pc := 25) (v := (-1 : Int32)) hx hb dX8_look_25 (by decide) ?_
      exact hQ _ _ _ dX8_look_26 hf
theorem F_X8_single : CalF yX8_single cX8_single 3 (some .int) 1 := ⟨tw_324, tw_1, by decide +kernel⟩
set_option maxRecDepth 100000 in
set_option maxHeartbeats 4000000 in
theorem c_X8_single (l : Launch) (D : va_G) (cI cJ cZ cS : ClassId) (N : Nat) (oe_A oe_kept_A oe_standing_A pa_A pa_signs_A sc_A sh_A sh_looks_A sh_openBits_A bl_A bl_settings_A od_A od_quarters_A st_A st_talls_A st_pairs_A hw_A hw_cutsFrom_A hw_chosen_A pw_A pw_leaves_A pw_first_A : Nat) (oe_kept : Nat → Option Nat) (oe_standing : Nat → Int32) (pa_signs : Nat → Int32) (pa_count : Int32) (sc_people : Int32) (sc_bride : Int32) (sh_count : Int32) (sh_hands : Int32) (sh_looks : Nat → Int32) (sh_openBits : Nat → Int32) (bl_flash : Int32) (bl_settings : Nat → Int32) (od_tired : Int32) (od_quarters : Nat → Int32) (st_rows : Int32) (st_columns : Int32) (st_rise : Int32) (st_talls : Nat → Int32) (st_pairs : Nat → Int32) (st_changed : Int32) (hw_cutsFrom : Nat → Int32) (hw_chosen : Nat → Int32) (pw_leaves : Nat → Int64) (pw_first : Nat → Int32) (pw_people : Int32) (pw_count : Int32) (p1 : Int32) (r : Int32) (hf : f_X8_single N sc_people sc_bride sh_count sh_looks sh_openBits p1 = some r) : RoC l D cI cJ cZ cS yX8_single cX8_single 3 (some .int) 3 72 (w_OE cI cJ cZ cS oe_A oe_kept_A oe_standing_A pa_A pa_signs_A sc_A sh_A sh_looks_A sh_openBits_A bl_A bl_settings_A od_A od_quarters_A st_A st_talls_A st_pairs_A hw_A hw_cutsFrom_A hw_chosen_A pw_A pw_leaves_A pw_first_A oe_kept oe_standing pa_signs pa_count sc_people sc_bride sh_count sh_hands sh_looks sh_openBits bl_flash bl_settings od_tired od_quarters st_rows st_columns st_rise st_talls st_pairs st_changed hw_cutsFrom hw_chosen pw_leaves pw_first pw_people pw_count) [.ref oe_A, .int p1] (some (.int r)) := by
  refine ro_in_i (own := RX8) (by decide +kernel) rfl (Nat.le_of_ble_eq_true rfl) ?_
  intro p e s m args below meth c ls Q E hQ hP hl
  obtain ⟨hx, hb, hml, hown, hts, hK, hN, hAO⟩ := id E
  have hl : lv_has ls 3 [(0, .ref oe_A), (1, .int p1)] := hl
  unfold f_X8_single at hf
  refine lv_iload_n (pc := 0) hx hb dX8_single_0 rfl (lv_at hl 1 rfl) ?_
  refine lv_iconst (pc := 1) (v := (0 : Int32)) hx hb dX8_single_1 (by decide) ?_
  refine lv_iconst (pc := 2) (v := (1 : Int32)) hx hb dX8_single_2 (by decide) ?_
  obtain ⟨v1, hv3, hf⟩ := bd_e hf
  refine ro_Si (pc := 3) (As := [.int p1, .int (0 : Int32), .int (1 : Int32)]) (rest := []) E (c_X8_within l D cI cJ cZ cS p1 (0 : Int32) (1 : Int32) v1 hv3) F_X8_within tw_217 tw_218  va_P_nil ⟨by decide, by decide⟩ rfl hl.1 (Nat.le_of_ble_eq_true rfl) ⟨by decide, by decide⟩ rfl dX8_single_3 ?_
  refine r_if_ne (pc := 6) (tgt := 12) hx hb dX8_single_6 (by decide) hf (fun hf => ?_) (fun hf => ?_)
  · refine lv_aload_n (pc := 12) hx hb dX8_single_12 rfl (lv_at hl 0 rfl) ?_
    refine va_get (pc := 13) (D := D) (ci := 8) (v := .ref sc_A) (C := RX8) (T := TX8) (N := 6) hx hb hts inG8 hown hK hP 0 rfl rfl 1 (by decide) (hts _ tw_195) (fun _ h9 => h9) rfl dX8_single_13 ?_
    refine va_getN (pc := 16) (D := D) (ci := 5) (v := .ref sh_A) (C := RX5) (T := TX5) (N := 6) hx hb hts inG5 hown hK hP 5 rfl rfl 2 (by decide) (va_Nw.use rfl (hN _ tn_15)) (fun _ h9 => h9) rfl dX8_single_16 ?_
    refine lv_aload_n (pc := 19) hx hb dX8_single_19 rfl (lv_at hl 0 rfl) ?_
    refine va_get (pc := 20) (D := D) (ci := 8) (v := .ref sc_A) (C := RX8) (T := TX8) (N := 6) hx hb hts inG8 hown hK hP 0 rfl rfl 1 (by decide) (hts _ tw_195) (fun _ h9 => h9) rfl dX8_single_20 ?_
    refine va_getN (pc := 23) (D := D) (ci := 5) (v := .int sc_people) (C := RX5) (T := TX5) (N := 6) hx hb hts inG5 hown hK hP 5 rfl rfl 0 (by decide) (va_Nw.use rfl (hN _ tn_13)) (fun _ h9 => h9) rfl dX8_single_23 ?_
    refine lv_aload_n (pc := 26) hx hb dX8_single_26 rfl (lv_at hl 0 rfl) ?_
    refine va_get (pc := 27) (D := D) (ci := 8) (v := .ref sc_A) (C := RX8) (T := TX8) (N := 6) hx hb hts inG8 hown hK hP 0 rfl rfl 1 (by decide) (hts _ tw_195) (fun _ h9 => h9) rfl dX8_single_27 ?_
    refine va_getN (pc := 30) (D := D) (ci := 5) (v := .int sc_bride) (C := RX5) (T := TX5) (N := 6) hx hb hts inG5 hown hK hP 5 rfl rfl 1 (by decide) (va_Nw.use rfl (hN _ tn_14)) (fun _ h9 => h9) rfl dX8_single_30 ?_
    obtain ⟨v2, hv33, hf⟩ := bd_e hf
    refine ro_Vi (pc := 33) (As := [.int sc_people, .int sc_bride]) (rest := []) E (c_X6_bestSingle l D cI cJ cZ cS N sh_A sh_looks_A sh_openBits_A sh_count sh_hands sh_looks sh_openBits sc_people sc_bride v2 hv33) F_X6_bestSingle rfl rfl tw_325 tw_326 tw_327 (hP.subm [6, 7, 8] rfl) ⟨by decide, by decide⟩ rfl hl.1 (Nat.le_of_ble_eq_true rfl) ⟨by decide, by decide⟩ rfl dX8_single_33 ?_
    refine lv_istore_n (pc := 36) (lv' := [(2, .int v2), (0, .ref oe_A), (1, .int p1)]) hx hb dX8_single_36 rfl hl (by decide) rfl (fun ls hl => ?_)
    refine lv_iload_n (pc := 37) hx hb dX8_single_37 rfl (lv_at hl 0 rfl) ?_
    refine lv_bipush (pc := 38) (v := (-6 : Int32)) hx hb dX8_single_38 (by decide) ?_
    refine r_ic_eq (pc := 40) (tgt := 47) hx hb dX8_single_40 (by decide) hf (fun hf => ?_) (fun hf => ?_)
    · refine lv_iload_n (pc := 47) hx hb dX8_single_47 rfl (lv_at hl 0 rfl) ?_
      exact hQ _ _ _ dX8_single_48 hf
    · refine lv_iload_n (pc := 43) hx hb dX8_single_43 rfl (lv_at hl 2 rfl) ?_
      refine r_if_ne (pc := 44) (tgt := 49) hx hb dX8_single_44 (by decide) hf (fun hf => ?_) (fun hf => ?_)
      · refine lv_aload_n (pc := 49) hx hb dX8_single_49 rfl (lv_at hl 1 rfl) ?_
        refine va_get (pc := 50) (D := D) (ci := 8) (v := .ref sc_A) (C := RX8) (T := TX8) (N := 6) hx hb hts inG8 hown hK hP 0 rfl rfl 1 (by decide) (hts _ tw_195) (fun _ h9 => h9) rfl dX8_single_50 ?_
        refine va_getN (pc := 53) (D := D) (ci := 5) (v := .ref sh_A) (C := RX5) (T := TX5) (N := 6) hx hb hts inG5 hown hK hP 5 rfl rfl 2 (by decide) (va_Nw.use rfl (hN _ tn_15)) (fun _ h9 => h9) rfl dX8_single_53 ?_
        refine lv_iload_n (pc := 56) hx hb dX8_single_56 rfl (lv_at hl 0 rfl) ?_
        refine lv_aload_n (pc := 57) hx hb dX8_single_57 rfl (lv_at hl 1 rfl) ?_
        refine va_get (pc := 58) (D := D) (ci := 8) (v := .ref sc_A) (C := RX8) (T := TX8) (N := 6) hx hb hts inG8 hown hK hP 0 rfl rfl 1 (by decide) (hts _ tw_195) (fun _ h9 => h9) rfl dX8_single_58 ?_
        obtain ⟨v3, hv61, hf⟩ := bd_e hf
        refine ro_Vi (pc := 61) (As := []) (rest := [.int v2, .ref sh_A]) E (c_X5_everybody l D cI cJ cZ cS sc_A sh_A bl_A od_A st_A sc_people sc_bride v3 hv61) F_X5_everybody rfl rfl tw_348 tw_349 tw_350 (hP.subm [5] rfl) ⟨by decide, by decide⟩ rfl hl.1 (Nat.le_of_ble_eq_true rfl) ⟨by decide, by decide⟩ rfl dX8_single_61 ?_
        obtain ⟨v4, hv64, hf⟩ := bd_e hf
        refine ro_Vi (pc := 64) (As := [.int v2, .int v3]) (rest := []) E (c_X6_badIn l D cI cJ cZ cS sh_A sh_looks_A sh_openBits_A sh_count sh_hands sh_looks sh_openBits v2 v3 v4 hv64) F_X6_badIn rfl rfl tw_352 tw_334 tw_335 (hP.subm [6, 7, 8] rfl) ⟨by decide, by decide⟩ rfl hl.1 (Nat.le_of_ble_eq_true rfl) ⟨by decide, by decide⟩ rfl dX8_single_64 ?_
        exact hQ _ _ _ dX8_single_67 hf
      · refine lv_iload_n (pc := 47) hx hb dX8_single_47 rfl (lv_at hl 0 rfl) ?_
        exact hQ _ _ _ dX8_single_48 hf
  · refine lv_bipush (pc := 9) (v := (-2 : Int32)) hx hb dX8_single_9 (by decide) ?_
    exact hQ _ _ _ dX8_single_11 hf
theorem F_X8_cover : CalF yX8_cover cX8_cover 1 (some .int) 0 := ⟨tw_356, tw_1, by decide +kernel⟩
set_option maxRecDepth 100000 in
set_option maxHeartbeats 4000000 in
theorem c_X8_cover (l : Launch) (D : va_G) (cI cJ cZ cS : ClassId) (N : Nat) (oe_A oe_kept_A oe_standing_A pa_A pa_signs_A sc_A sh_A sh_looks_A sh_openBits_A bl_A bl_settings_A od_A od_quarters_A st_A st_talls_A st_pairs_A hw_A hw_cutsFrom_A hw_chosen_A pw_A pw_leaves_A pw_first_A : Nat) (oe_kept : Nat → Option Nat) (oe_standing : Nat → Int32) (pa_signs : Nat → Int32) (pa_count : Int32) (sc_people : Int32) (sc_bride : Int32) (sh_count : Int32) (sh_hands : Int32) (sh_looks : Nat → Int32) (sh_openBits : Nat → Int32) (bl_flash : Int32) (bl_settings : Nat → Int32) (od_tired : Int32) (od_quarters : Nat → Int32) (st_rows : Int32) (st_columns : Int32) (st_rise : Int32) (st_talls : Nat → Int32) (st_pairs : Nat → Int32) (st_changed : Int32) (hw_cutsFrom : Nat → Int32) (hw_chosen : Nat → Int32) (pw_leaves : Nat → Int64) (pw_first : Nat → Int32) (pw_people : Int32) (pw_count : Int32) (r : Int32) (hf : f_X8_cover N sc_people sh_count sh_openBits = some r) : RoC l D cI cJ cZ cS yX8_cover cX8_cover 1 (some .int) 2 48 (w_OE cI cJ cZ cS oe_A oe_kept_A oe_standing_A pa_A pa_signs_A sc_A sh_A sh_looks_A sh_openBits_A bl_A bl_settings_A od_A od_quarters_A st_A st_talls_A st_pairs_A hw_A hw_cutsFrom_A hw_chosen_A pw_A pw_leaves_A pw_first_A oe_kept oe_standing pa_signs pa_count sc_people sc_bride sh_count sh_hands sh_looks sh_openBits bl_flash bl_settings od_tired od_quarters st_rows st_columns st_rise st_talls st_pairs st_changed hw_cutsFrom hw_chosen pw_leaves pw_first pw_people pw_count) [.ref oe_A] (some (.int r)) := by
  refine ro_in_i (own := RX8) (by decide +kernel) rfl (Nat.le_of_ble_eq_true rfl) ?_
  intro p e s m args below meth c ls Q E hQ hP hl
  obtain ⟨hx, hb, hml, hown, hts, hK, hN, hAO⟩ := id E
  have hl : lv_has ls 1 [(0, .ref oe_A)] := hl
  unfold f_X8_cover at hf
  refine lv_aload_n (pc := 0) hx hb dX8_cover_0 rfl (lv_at hl 0 rfl) ?_
  refine va_get (pc := 1) (D := D) (ci := 8) (v := .ref sc_A) (C := RX8) (T := TX8) (N := 6) hx hb hts inG8 hown hK hP 0 rfl rfl 1 (by decide) (hts _ tw_195) (fun _ h9 => h9) rfl dX8_cover_1 ?_
  refine va_getN (pc := 4) (D := D) (ci := 5) (v := .ref sh_A) (C := RX5) (T := TX5) (N := 6) hx hb hts inG5 hown hK hP 5 rfl rfl 2 (by decide) (va_Nw.use rfl (hN _ tn_15)) (fun _ h9 => h9) rfl dX8_cover_4 ?_
  refine lv_aload_n (pc := 7) hx hb dX8_cover_7 rfl (lv_at hl 0 rfl) ?_
  refine va_get (pc := 8) (D := D) (ci := 8) (v := .ref sc_A) (C := RX8) (T := TX8) (N := 6) hx hb hts inG8 hown hK hP 0 rfl rfl 1 (by decide) (hts _ tw_195) (fun _ h9 => h9) rfl dX8_cover_8 ?_
  obtain ⟨v1, hv11, hf⟩ := bd_e hf
  refine ro_Vi (pc := 11) (As := []) (rest := [.ref sh_A]) E (c_X5_everybody l D cI cJ cZ cS sc_A sh_A bl_A od_A st_A sc_people sc_bride v1 hv11) F_X5_everybody rfl rfl tw_348 tw_349 tw_350 (hP.subm [5] rfl) ⟨by decide, by decide⟩ rfl hl.1 (Nat.le_of_ble_eq_true rfl) ⟨by decide, by decide⟩ rfl dX8_cover_11 ?_
  obtain ⟨v2, hv14, hf⟩ := bd_e hf
  refine ro_Vi (pc := 14) (As := [.int v1]) (rest := []) E (c_X6_leastCover l D cI cJ cZ cS N sh_A sh_looks_A sh_openBits_A sh_count sh_hands sh_looks sh_openBits v1 v2 hv14) F_X6_leastCover rfl rfl tw_357 tw_358 tw_359 (hP.subm [6, 7, 8] rfl) ⟨by decide, by decide⟩ rfl hl.1 (Nat.le_of_ble_eq_true rfl) ⟨by decide, by decide⟩ rfl dX8_cover_14 ?_
  exact hQ _ _ _ dX8_cover_17 hf
theorem F_X8_spoils : CalF yX8_spoils cX8_spoils 3 (some .int) 1 := ⟨tw_368, tw_1, by decide +kernel⟩
set_option maxRecDepth 100000 in
set_option maxHeartbeats 4000000 in
theorem c_X8_spoils (l : Launch) (D : va_G) (cI cJ cZ cS : ClassId) (N : Nat) (oe_A oe_kept_A oe_standing_A pa_A pa_signs_A sc_A sh_A sh_looks_A sh_openBits_A bl_A bl_settings_A od_A od_quarters_A st_A st_talls_A st_pairs_A hw_A hw_cutsFrom_A hw_chosen_A pw_A pw_leaves_A pw_first_A : Nat) (oe_kept : Nat → Option Nat) (oe_standing : Nat → Int32) (pa_signs : Nat → Int32) (pa_count : Int32) (sc_people : Int32) (sc_bride : Int32) (sh_count : Int32) (sh_hands : Int32) (sh_looks : Nat → Int32) (sh_openBits : Nat → Int32) (bl_flash : Int32) (bl_settings : Nat → Int32) (od_tired : Int32) (od_quarters : Nat → Int32) (st_rows : Int32) (st_columns : Int32) (st_rise : Int32) (st_talls : Nat → Int32) (st_pairs : Nat → Int32) (st_changed : Int32) (hw_cutsFrom : Nat → Int32) (hw_chosen : Nat → Int32) (pw_leaves : Nat → Int64) (pw_first : Nat → Int32) (pw_people : Int32) (pw_count : Int32) (p1 : Int32) (r : Int32) (hf : f_X8_spoils N sc_people sh_count sh_openBits p1 = some r) : RoC l D cI cJ cZ cS yX8_spoils cX8_spoils 3 (some .int) 3 70 (w_OE cI cJ cZ cS oe_A oe_kept_A oe_standing_A pa_A pa_signs_A sc_A sh_A sh_looks_A sh_openBits_A bl_A bl_settings_A od_A od_quarters_A st_A st_talls_A st_pairs_A hw_A hw_cutsFrom_A hw_chosen_A pw_A pw_leaves_A pw_first_A oe_kept oe_standing pa_signs pa_count sc_people sc_bride sh_count sh_hands sh_looks sh_openBits bl_flash bl_settings od_tired od_quarters st_rows st_columns st_rise st_talls st_pairs st_changed hw_cutsFrom hw_chosen pw_leaves pw_first pw_people pw_count) [.ref oe_A, .int p1] (some (.int r)) := by
  refine ro_in_i (own := RX8) (by decide +kernel) rfl (Nat.le_of_ble_eq_true rfl) ?_
  intro p e s m args below meth c ls Q E hQ hP hl
  obtain ⟨hx, hb, hml, hown, hts, hK, hN, hAO⟩ := id E
  have hl : lv_has ls 3 [(0, .ref oe_A), (1, .int p1)] := hl
  unfold f_X8_spoils at hf
  refine lv_iload_n (pc := 0) hx hb dX8_spoils_0 rfl (lv_at hl 1 rfl) ?_
  refine lv_iconst (pc := 1) (v := (0 : Int32)) hx hb dX8_spoils_1 (by decide) ?_
  refine lv_iconst (pc := 2) (v := (1 : Int32)) hx hb dX8_spoils_2 (by decide) ?_
  obtain ⟨v1, hv3, hf⟩ := bd_e hf
  refine ro_Si (pc := 3) (As := [.int p1, .int (0 : Int32), .int (1 : Int32)]) (rest := []) E (c_X8_within l D cI cJ cZ cS p1 (0 : Int32) (1 : Int32) v1 hv3) F_X8_within tw_217 tw_218  va_P_nil ⟨by decide, by decide⟩ rfl hl.1 (Nat.le_of_ble_eq_true rfl) ⟨by decide, by decide⟩ rfl dX8_spoils_3 ?_
  refine r_if_ne (pc := 6) (tgt := 12) hx hb dX8_spoils_6 (by decide) hf (fun hf => ?_) (fun hf => ?_)
  · refine lv_aload_n (pc := 12) hx hb dX8_spoils_12 rfl (lv_at hl 0 rfl) ?_
    refine va_get (pc := 13) (D := D) (ci := 8) (v := .ref sc_A) (C := RX8) (T := TX8) (N := 6) hx hb hts inG8 hown hK hP 0 rfl rfl 1 (by decide) (hts _ tw_195) (fun _ h9 => h9) rfl dX8_spoils_13 ?_
    refine va_getN (pc := 16) (D := D) (ci := 5) (v := .ref sh_A) (C := RX5) (T := TX5) (N := 6) hx hb hts inG5 hown hK hP 5 rfl rfl 2 (by decide) (va_Nw.use rfl (hN _ tn_15)) (fun _ h9 => h9) rfl dX8_spoils_16 ?_
    refine lv_aload_n (pc := 19) hx hb dX8_spoils_19 rfl (lv_at hl 0 rfl) ?_
    refine va_get (pc := 20) (D := D) (ci := 8) (v := .ref sc_A) (C := RX8) (T := TX8) (N := 6) hx hb hts inG8 hown hK hP 0 rfl rfl 1 (by decide) (hts _ tw_195) (fun _ h9 => h9) rfl dX8_spoils_20 ?_
    refine va_getN (pc := 23) (D := D) (ci := 5) (v := .int sc_people) (C := RX5) (T := TX5) (N := 6) hx hb hts inG5 hown hK hP 5 rfl rfl 0 (by decide) (va_Nw.use rfl (hN _ tn_13)) (fun _ h9 => h9) rfl dX8_spoils_23 ?_
    obtain ⟨v2, hv26, hf⟩ := bd_e hf
    refine ro_Vi (pc := 26) (As := [.int sc_people]) (rest := []) E (c_X6_worstPerson l D cI cJ cZ cS N sh_A sh_looks_A sh_openBits_A sh_count sh_hands sh_looks sh_openBits sc_people v2 hv26) F_X6_worstPerson rfl rfl tw_369 tw_370 tw_371 (hP.subm [6, 7, 8] rfl) ⟨by decide, by decide⟩ rfl hl.1 (Nat.le_of_ble_eq_true rfl) ⟨by decide, by decide⟩ rfl dX8_spoils_26 ?_
    refine lv_istore_n (pc := 29) (lv' := [(2, .int v2), (0, .ref oe_A), (1, .int p1)]) hx hb dX8_spoils_29 rfl hl (by decide) rfl (fun ls hl => ?_)
    refine lv_iload_n (pc := 30) hx hb dX8_spoils_30 rfl (lv_at hl 2 rfl) ?_
    refine r_if_ne (pc := 31) (tgt := 36) hx hb dX8_spoils_31 (by decide) hf (fun hf => ?_) (fun hf => ?_)
    · refine lv_iload_n (pc := 36) hx hb dX8_spoils_36 rfl (lv_at hl 0 rfl) ?_
      refine lv_bipush (pc := 37) (v := (-6 : Int32)) hx hb dX8_spoils_37 (by decide) ?_
      refine r_ic_ne (pc := 39) (tgt := 46) hx hb dX8_spoils_39 (by decide) hf (fun hf => ?_) (fun hf => ?_)
      · refine lv_aload_n (pc := 46) hx hb dX8_spoils_46 rfl (lv_at hl 1 rfl) ?_
        refine va_get (pc := 47) (D := D) (ci := 8) (v := .ref sc_A) (C := RX8) (T := TX8) (N := 6) hx hb hts inG8 hown hK hP 0 rfl rfl 1 (by decide) (hts _ tw_195) (fun _ h9 => h9) rfl dX8_spoils_47 ?_
        refine va_getN (pc := 50) (D := D) (ci := 5) (v := .ref sh_A) (C := RX5) (T := TX5) (N := 6) hx hb hts inG5 hown hK hP 5 rfl rfl 2 (by decide) (va_Nw.use rfl (hN _ tn_15)) (fun _ h9 => h9) rfl dX8_spoils_50 ?_
        refine lv_iload_n (pc := 53) hx hb dX8_spoils_53 rfl (lv_at hl 0 rfl) ?_
        obtain ⟨v3, hv54, hf⟩ := bd_e hf
        refine ro_Vi (pc := 54) (As := [.int v2]) (rest := []) E (c_X6_timesBad l D cI cJ cZ cS N sh_A sh_looks_A sh_openBits_A sh_count sh_hands sh_looks sh_openBits v2 v3 hv54) F_X6_timesBad rfl rfl tw_377 tw_374 tw_375 (hP.subm [6, 7, 8] rfl) ⟨by decide, by decide⟩ rfl hl.1 (Nat.le_of_ble_eq_true rfl) ⟨by decide, by decide⟩ rfl dX8_spoils_54 ?_
        exact hQ _ _ _ dX8_spoils_57 hf
      · refine lv_iconst (pc := 42) (v := (0 : Int32)) hx hb dX8_spoils_42 (by decide) ?_
        refine lv_goto (pc := 43) (tgt := 57) hx hb dX8_spoils_43 (by decide) ?_
        exact hQ _ _ _ dX8_spoils_57 hf
    · refine lv_iload_n (pc := 34) hx hb dX8_spoils_34 rfl (lv_at hl 0 rfl) ?_
      exact hQ _ _ _ dX8_spoils_35 hf
  · refine lv_bipush (pc := 9) (v := (-2 : Int32)) hx hb dX8_spoils_9 (by decide) ?_
    exact hQ _ _ _ dX8_spoils_11 hf
theorem F_X8_hands : CalF yX8_hands cX8_hands 3 (some .int) 1 := ⟨tw_381, tw_1, by decide +kernel⟩
set_option maxRecDepth 100000 in
set_option maxHeartbeats 4000000 in
theorem c_X8_hands (l : Launch) (D : va_G) (cI cJ cZ cS : ClassId) (oe_A oe_kept_A oe_standing_A pa_A pa_signs_A sc_A sh_A sh_looks_A sh_openBits_A bl_A bl_settings_A od_A od_quarters_A st_A st_talls_A st_pairs_A hw_A hw_cutsFrom_A hw_chosen_A pw_A pw_leaves_A pw_first_A : Nat) (oe_kept : Nat → Option Nat) (oe_standing : Nat → Int32) (pa_signs : Nat → Int32) (pa_count : Int32) (sc_people : Int32) (sc_bride : Int32) (sh_count : Int32) (sh_hands : Int32) (sh_looks : Nat → Int32) (sh_openBits : Nat → Int32) (bl_flash : Int32) (bl_settings : Nat → Int32) (od_tired : Int32) (od_quarters : Nat → Int32) (st_rows : Int32) (st_columns : Int32) (st_rise : Int32) (st_talls : Nat → Int32) (st_pairs : Nat → Int32) (st_changed : Int32) (hw_cutsFrom : Nat → Int32) (hw_chosen : Nat → Int32) (pw_leaves : Nat → Int64) (pw_first : Nat → Int32) (pw_people : Int32) (pw_count : Int32) (p1 : Int32) (sz : Nat) (r : Int32) (r_sh_hands : Int32) (hf : f_X8_hands sc_people sh_hands p1 = some (r, r_sh_hands)) : RwC l D cI cJ cZ cS yX8_hands cX8_hands 3 (some .int) 1 22 (w_OE cI cJ cZ cS oe_A oe_kept_A oe_standing_A pa_A pa_signs_A sc_A sh_A sh_looks_A sh_openBits_A bl_A bl_settings_A od_A od_quarters_A st_A st_talls_A st_pairs_A hw_A hw_cutsFrom_A hw_chosen_A pw_A pw_leaves_A pw_first_A oe_kept oe_standing pa_signs pa_count sc_people sc_bride sh_count sh_hands sh_looks sh_openBits bl_flash bl_settings od_tired od_quarters st_rows st_columns st_rise st_talls st_pairs st_changed hw_cutsFrom hw_chosen pw_leaves pw_first pw_people pw_count) sz [.ref oe_A, .int p1] (some (.int r)) (w_OE cI cJ cZ cS oe_A oe_kept_A oe_standing_A pa_A pa_signs_A sc_A sh_A sh_looks_A sh_openBits_A bl_A bl_settings_A od_A od_quarters_A st_A st_talls_A st_pairs_A hw_A hw_cutsFrom_A hw_chosen_A pw_A pw_leaves_A pw_first_A oe_kept oe_standing pa_signs pa_count sc_people sc_bride sh_count r_sh_hands sh_looks sh_openBits bl_flash bl_settings od_tired od_quarters st_rows st_columns st_rise st_talls st_pairs st_changed hw_cutsFrom hw_chosen pw_leaves pw_first pw_people pw_count) := by
  refine rw_in_i (own := RX8) (by decide +kernel) rfl (Nat.le_of_ble_eq_true rfl) ?_
  intro p e s m args below meth c ls Q A E hA hQ hP hD hS hl
  obtain ⟨hx, hb, hml, hown, hts, hK, hN, hAO⟩ := id E
  have hl : lv_has ls 3 [(0, .ref oe_A), (1, .int p1)] := hl
  unfold f_X8_hands at hf
  obtain ⟨H, hH⟩ : ∃ H, H = s.heap := ⟨_, rfl⟩
  obtain ⟨locs, hlocs⟩ : ∃ L : List Loc, L = [] := ⟨_, rfl⟩
  rw [show W p l e (roR 1 22) s m args below meth c s.heap [] 0 0 Q (F0 m 0 ls []) = W p l e (roR 1 22) s m args below meth c H locs 0 0 Q (F0 m 0 ls []) by rw [hH, hlocs]]
  replace hS : va_S A s.heap H locs := by rw [hH, hlocs]; exact hS
  replace hP : va_P D vwCl (w_OE cI cJ cZ cS oe_A oe_kept_A oe_standing_A pa_A pa_signs_A sc_A sh_A sh_looks_A sh_openBits_A bl_A bl_settings_A od_A od_quarters_A st_A st_talls_A st_pairs_A hw_A hw_cutsFrom_A hw_chosen_A pw_A pw_leaves_A pw_first_A oe_kept oe_standing pa_signs pa_count sc_people sc_bride sh_count sh_hands sh_looks sh_openBits bl_flash bl_settings od_tired od_quarters st_rows st_columns st_rise st_talls st_pairs st_changed hw_cutsFrom hw_chosen pw_leaves pw_first pw_people pw_count) H := by rw [hH]; exact hP
  clear hH hlocs
  refine lv_iload_n (pc := 0) hx hb dX8_hands_0 rfl (lv_at hl 1 rfl) ?_
  refine lv_iconst (pc := 1) (v := (0 : Int32)) hx hb dX8_hands_1 (by decide) ?_
  refine lv_aload_n (pc := 2) hx hb dX8_hands_2 rfl (lv_at hl 0 rfl) ?_
  refine va_get (pc := 3) (D := D) (ci := 8) (v := .ref sc_A) (C := RX8) (T := TX8) (N := 6) hx hb hts inG8 hown hK hP 0 rfl rfl 1 (by decide) (hts _ tw_195) (fun _ h9 => h9) rfl dX8_hands_3 ?_
  obtain ⟨v1, hv6, hf⟩ := bd_e hf
  refine ro_Vi (pc := 6) (As := []) (rest := [.int (0 : Int32), .int p1]) E (c_X5_everybody l D cI cJ cZ cS sc_A sh_A bl_A od_A st_A sc_people sc_bride v1 hv6) F_X5_everybody rfl rfl tw_348 tw_349 tw_350 (hP.subm [5] rfl) ⟨by decide, by decide⟩ rfl hl.1 (Nat.le_of_ble_eq_true rfl) ⟨by decide, by decide⟩ rfl dX8_hands_6 ?_
  refine lv_iconst (pc := 9) (v := (1 : Int32)) hx hb dX8_hands_9 (by decide) ?_
  refine lv_ishr (pc := 10) hx hb dX8_hands_10 ?_
  obtain ⟨v2, hv11, hf⟩ := bd_e hf
  refine ro_Si (pc := 11) (As := [.int p1, .int (0 : Int32), .int (v1 >>> ((1 : Int32) &&& 31))]) (rest := []) E (c_X8_within l D cI cJ cZ cS p1 (0 : Int32) (v1 >>> ((1 : Int32) &&& 31)) v2 hv11) F_X8_within tw_217 tw_218  va_P_nil ⟨by decide, by decide⟩ rfl hl.1 (Nat.le_of_ble_eq_true rfl) ⟨by decide, by decide⟩ rfl dX8_hands_11 ?_
  refine r_if_ne (pc := 14) (tgt := 20) hx hb dX8_hands_14 (by decide) hf (fun hf => ?_) (fun hf => ?_)
  · refine lv_aload_n (pc := 20) hx hb dX8_hands_20 rfl (lv_at hl 0 rfl) ?_
    refine va_get (pc := 21) (D := D) (ci := 8) (v := .ref sc_A) (C := RX8) (T := TX8) (N := 6) hx hb hts inG8 hown hK hP 0 rfl rfl 1 (by decide) (hts _ tw_195) (fun _ h9 => h9) rfl dX8_hands_21 ?_
    refine va_getN (pc := 24) (D := D) (ci := 5) (v := .ref sh_A) (C := RX5) (T := TX5) (N := 6) hx hb hts inG5 hown hK hP 5 rfl rfl 2 (by decide) (va_Nw.use rfl (hN _ tn_15)) (fun _ h9 => h9) rfl dX8_hands_24 ?_
    refine va_getN (pc := 27) (D := D) (ci := 6) (v := .int sh_hands) (C := RX6) (T := TX6) (N := 4) hx hb hts inG6 hown hK hP 6 rfl rfl 1 (by decide) (va_Nw.use rfl (hN _ tn_6)) (fun _ h9 => h9) rfl dX8_hands_27 ?_
    refine lv_istore_n (pc := 30) (lv' := [(2, .int sh_hands), (0, .ref oe_A), (1, .int p1)]) hx hb dX8_hands_30 rfl hl (by decide) rfl (fun ls hl => ?_)
    refine lv_aload_n (pc := 31) hx hb dX8_hands_31 rfl (lv_at hl 1 rfl) ?_
    refine va_get (pc := 32) (D := D) (ci := 8) (v := .ref sc_A) (C := RX8) (T := TX8) (N := 6) hx hb hts inG8 hown hK hP 0 rfl rfl 1 (by decide) (hts _ tw_195) (fun _ h9 => h9) rfl dX8_hands_32 ?_
    refine va_getN (pc := 35) (D := D) (ci := 5) (v := .ref sh_A) (C := RX5) (T := TX5) (N := 6) hx hb hts inG5 hown hK hP 5 rfl rfl 2 (by decide) (va_Nw.use rfl (hN _ tn_15)) (fun _ h9 => h9) rfl dX8_hands_35 ?_
    refine lv_iload_n (pc := 38) hx hb dX8_hands_38 rfl (lv_at hl 2 rfl) ?_
    refine va_putN (pc := 39) (D := D) (ci := 6) (v := .int p1) (ty := .int) (C := RX6) (T := TX6) (N := 4) hx hb hts inG6 tyX6 tyX6_ok nmX6 hown hK hP hD hS 6 rfl rfl 1 (by decide) (va_Nw.use rfl (hN _ tn_6)) (fun _ h9 => h9) rfl (by decide +kernel) rfl rfl (Nat.le_of_ble_eq_true rfl) dX8_hands_39 (fun H locs hP hD hS => ?_)
    have hP : va_P D vwCl (w_OE cI cJ cZ cS oe_A oe_kept_A oe_standing_A pa_A pa_signs_A sc_A sh_A sh_looks_A sh_openBits_A bl_A bl_settings_A od_A od_quarters_A st_A st_talls_A st_pairs_A hw_A hw_cutsFrom_A hw_chosen_A pw_A pw_leaves_A pw_first_A oe_kept oe_standing pa_signs pa_count sc_people sc_bride sh_count p1 sh_looks sh_openBits bl_flash bl_settings od_tired od_quarters st_rows st_columns st_rise st_talls st_pairs st_changed hw_cutsFrom hw_chosen pw_leaves pw_first pw_people pw_count) H := hP
    have hD : va_D A (w_OE cI cJ cZ cS oe_A oe_kept_A oe_standing_A pa_A pa_signs_A sc_A sh_A sh_looks_A sh_openBits_A bl_A bl_settings_A od_A od_quarters_A st_A st_talls_A st_pairs_A hw_A hw_cutsFrom_A hw_chosen_A pw_A pw_leaves_A pw_first_A oe_kept oe_standing pa_signs pa_count sc_people sc_bride sh_count p1 sh_looks sh_openBits bl_flash bl_settings od_tired od_quarters st_rows st_columns st_rise st_talls st_pairs st_changed hw_cutsFrom hw_chosen pw_leaves pw_first pw_people pw_count) := hD
    refine lv_iload_n (pc := 42) hx hb dX8_hands_42 rfl (lv_at hl 0 rfl) ?_
    cases hf
    exact hQ _ _ _ _ _ dX8_hands_43 rfl hP hD hS
  · refine lv_bipush (pc := 17) (v := (-2 : Int32)) hx hb dX8_hands_17 (by decide) ?_
    cases hf
    exact hQ _ _ _ _ _ dX8_hands_19 rfl hP hD hS
