theorem F_X8_heads : CalF yX8_heads cX8_heads 3 (some .int) 1 := ⟨tw_385, tw_1, by decide +kernel⟩
set_option maxRecDepth 100000 in
set_option maxHeartbeats 4000000 in
theorem c_X8_heads (l : Launch) (D : va_G) (cI cJ cZ cS : ClassId) (N : Nat) (oe_A oe_kept_A oe_standing_A pa_A pa_signs_A sc_A sh_A sh_looks_A sh_openBits_A bl_A bl_settings_A od_A od_quarters_A st_A st_talls_A st_pairs_A hw_A hw_cutsFrom_A hw_chosen_A pw_A pw_leaves_A pw_first_A : Nat) (oe_kept : Nat → Option Nat) (oe_standing : Nat → Int32) (pa_signs : Nat → Int32) (pa_count : Int32) (sc_people : Int32) (sc_bride : Int32) (sh_count : Int32) (sh_hands : Int32) (sh_looks : Nat → Int32) (sh_openBits : Nat → Int32) (bl_flash : Int32) (bl_settings : Nat → Int32) (od_tired : Int32) (od_quarters : Nat → Int32) (st_rows : Int32) (st_columns : Int32) (st_rise : Int32) (st_talls : Nat → Int32) (st_pairs : Nat → Int32) (st_changed : Int32) (hw_cutsFrom : Nat → Int32) (hw_chosen : Nat → Int32) (pw_leaves : Nat → Int64) (pw_first : Nat → Int32) (pw_people : Int32) (pw_count : Int32) (p1 : Int32) (sz : Nat) (r : Int32) (r_hw_cutsFrom : Nat → Int32) (r_hw_chosen : Nat → Int32) (hf : f_X8_heads N sc_people sh_count sh_hands sh_openBits hw_cutsFrom hw_chosen p1 = some (r, r_hw_cutsFrom, r_hw_chosen)) : RwC l D cI cJ cZ cS yX8_heads cX8_heads 3 (some .int) 4 97 (w_OE cI cJ cZ cS oe_A oe_kept_A oe_standing_A pa_A pa_signs_A sc_A sh_A sh_looks_A sh_openBits_A bl_A bl_settings_A od_A od_quarters_A st_A st_talls_A st_pairs_A hw_A hw_cutsFrom_A hw_chosen_A pw_A pw_leaves_A pw_first_A oe_kept oe_standing pa_signs pa_count sc_people sc_bride sh_count sh_hands sh_looks sh_openBits bl_flash bl_settings od_tired od_quarters st_rows st_columns st_rise st_talls st_pairs st_changed hw_cutsFrom hw_chosen pw_leaves pw_first pw_people pw_count) sz [.ref oe_A, .int p1] (some (.int r)) (w_OE cI cJ cZ cS oe_A oe_kept_A oe_standing_A pa_A pa_signs_A sc_A sh_A sh_looks_A sh_openBits_A bl_A bl_settings_A od_A od_quarters_A st_A st_talls_A st_pairs_A hw_A hw_cutsFrom_A hw_chosen_A pw_A pw_leaves_A pw_first_A oe_kept oe_standing pa_signs pa_count sc_people sc_bride sh_count sh_hands sh_looks sh_openBits bl_flash bl_settings od_tired od_quarters st_rows st_columns st_rise st_talls st_pairs st_changed r_hw_cutsFrom r_hw_chosen pw_leaves pw_first pw_people pw_count) := by
  refine rw_in_i (own := RX8) (by decide +kernel) rfl (Nat.le_of_ble_eq_true rfl) ?_
  intro p e s m args below meth c ls Q A E hA hQ hP hD hS hl
  obtain ⟨hx, hb, hml, hown, hts, hK, hN, hAO⟩ := id E
  have hl : lv_has ls 3 [(0, .ref oe_A), (1, .int p1)] := hl
  unfold f_X8_heads at hf
  obtain ⟨H, hH⟩ : ∃ H, H = s.heap := ⟨_, rfl⟩
  obtain ⟨locs, hlocs⟩ : ∃ L : List Loc, L = [] := ⟨_, rfl⟩
  rw [show W p l e (roR 4 97) s m args below meth c s.heap [] 0 0 Q (F0 m 0 ls []) = W p l e (roR 4 97) s m args below meth c H locs 0 0 Q (F0 m 0 ls []) by rw [hH, hlocs]]
  replace hS : va_S A s.heap H locs := by rw [hH, hlocs]; exact hS
  replace hP : va_P D vwCl (w_OE cI cJ cZ cS oe_A oe_kept_A oe_standing_A pa_A pa_signs_A sc_A sh_A sh_looks_A sh_openBits_A bl_A bl_settings_A od_A od_quarters_A st_A st_talls_A st_pairs_A hw_A hw_cutsFrom_A hw_chosen_A pw_A pw_leaves_A pw_first_A oe_kept oe_standing pa_signs pa_count sc_people sc_bride sh_count sh_hands sh_looks sh_openBits bl_flash bl_settings od_tired od_quarters st_rows st_columns st_rise st_talls st_pairs st_changed hw_cutsFrom hw_chosen pw_leaves pw_first pw_people pw_count) H := by rw [hH]; exact hP
  clear hH hlocs
  refine lv_iload_n (pc := 0) hx hb dX8_heads_0 rfl (lv_at hl 1 rfl) ?_
  refine lv_iconst (pc := 1) (v := (-1 : Int32)) hx hb dX8_heads_1 (by decide) ?_
  obtain ⟨k1, hk1, hf⟩ := lc0_e hf
  have K1 : ∀  (H : Heap) (locs : List Loc) (ls : Array Slot), k1 = some (r, r_hw_cutsFrom, r_hw_chosen) → va_P D vwCl (w_OE cI cJ cZ cS oe_A oe_kept_A oe_standing_A pa_A pa_signs_A sc_A sh_A sh_looks_A sh_openBits_A bl_A bl_settings_A od_A od_quarters_A st_A st_talls_A st_pairs_A hw_A hw_cutsFrom_A hw_chosen_A pw_A pw_leaves_A pw_first_A oe_kept oe_standing pa_signs pa_count sc_people sc_bride sh_count sh_hands sh_looks sh_openBits bl_flash bl_settings od_tired od_quarters st_rows st_columns st_rise st_talls st_pairs st_changed hw_cutsFrom hw_chosen pw_leaves pw_first pw_people pw_count) H → va_D A (w_OE cI cJ cZ cS oe_A oe_kept_A oe_standing_A pa_A pa_signs_A sc_A sh_A sh_looks_A sh_openBits_A bl_A bl_settings_A od_A od_quarters_A st_A st_talls_A st_pairs_A hw_A hw_cutsFrom_A hw_chosen_A pw_A pw_leaves_A pw_first_A oe_kept oe_standing pa_signs pa_count sc_people sc_bride sh_count sh_hands sh_looks sh_openBits bl_flash bl_settings od_tired od_quarters st_rows st_columns st_rise st_talls st_pairs st_changed hw_cutsFrom hw_chosen pw_leaves pw_first pw_people pw_count) → va_S A s.heap H locs → lv_has ls 3 [(0, .ref oe_A), (1, .int p1)] → W p l e (roR 4 97) s m args below meth c H locs 0 0 Q (F0 m 19 ls []) := by
    intro  H locs ls hf hP hD hS hl
    rw [hk1] at hf
    refine lv_aload_n (pc := 19) hx hb dX8_heads_19 rfl (lv_at hl 0 rfl) ?_
    refine va_get (pc := 20) (D := D) (ci := 8) (v := .ref hw_A) (C := RX8) (T := TX8) (N := 6) hx hb hts inG8 hown hK hP 0 rfl rfl 3 (by decide) (hts _ tw_197) (fun _ h9 => h9) rfl dX8_heads_20 ?_
    refine lv_aload_n (pc := 23) hx hb dX8_heads_23 rfl (lv_at hl 0 rfl) ?_
    refine va_get (pc := 24) (D := D) (ci := 8) (v := .ref sc_A) (C := RX8) (T := TX8) (N := 6) hx hb hts inG8 hown hK hP 0 rfl rfl 1 (by decide) (hts _ tw_195) (fun _ h9 => h9) rfl dX8_heads_24 ?_
    refine va_getN (pc := 27) (D := D) (ci := 5) (v := .ref sh_A) (C := RX5) (T := TX5) (N := 6) hx hb hts inG5 hown hK hP 5 rfl rfl 2 (by decide) (va_Nw.use rfl (hN _ tn_15)) (fun _ h9 => h9) rfl dX8_heads_27 ?_
    refine lv_aload_n (pc := 30) hx hb dX8_heads_30 rfl (lv_at hl 0 rfl) ?_
    refine va_get (pc := 31) (D := D) (ci := 8) (v := .ref sc_A) (C := RX8) (T := TX8) (N := 6) hx hb hts inG8 hown hK hP 0 rfl rfl 1 (by decide) (hts _ tw_195) (fun _ h9 => h9) rfl dX8_heads_31 ?_
    refine va_getN (pc := 34) (D := D) (ci := 5) (v := .int sc_people) (C := RX5) (T := TX5) (N := 6) hx hb hts inG5 hown hK hP 5 rfl rfl 0 (by decide) (va_Nw.use rfl (hN _ tn_13)) (fun _ h9 => h9) rfl dX8_heads_34 ?_
    obtain ⟨⟨v3, hw_cutsFrom_4, hw_chosen_5⟩, hv37, hf⟩ := bd_e hf
    refine rw_Vi (pc := 37) (As := [.ref sh_A, .int sc_people]) (rest := []) (wr := [(oe_A, .inr (8, [.ref pa_A, .ref sc_A, .ref oe_kept_A, .ref hw_A, .ref pw_A, .ref oe_standing_A])), (oe_kept_A, .inl (cS, 2, .inr (.inr (.inr (.inr oe_kept))))), (oe_standing_A, .inl (cI, 8, .inl oe_standing)), (pa_A, .inr (3, [.ref pa_signs_A, .int pa_count])), (pa_signs_A, .inl (cI, 40, .inl pa_signs)), (sc_A, .inr (5, [.int sc_people, .int sc_bride, .ref sh_A, .ref bl_A, .ref od_A, .ref st_A])), (bl_A, .inr (0, [.int bl_flash, .ref bl_settings_A])), (bl_settings_A, .inl (cI, 24, .inl bl_settings)), (od_A, .inr (2, [.int od_tired, .ref od_quarters_A])), (od_quarters_A, .inl (cI, 8, .inl od_quarters)), (st_A, .inr (7, [.int st_rows, .int st_columns, .int st_rise, .ref st_talls_A, .ref st_pairs_A, .int st_changed])), (st_talls_A, .inl (cI, 8, .inl st_talls)), (st_pairs_A, .inl (cI, 64, .inl st_pairs)), (pw_A, .inr (4, [.ref pw_leaves_A, .ref pw_first_A, .int pw_people, .int pw_count])), (pw_leaves_A, .inl (cJ, 64, .inr (.inl pw_leaves))), (pw_first_A, .inl (cI, 8, .inl pw_first))]) (wn := (w_OE cI cJ cZ cS oe_A oe_kept_A oe_standing_A pa_A pa_signs_A sc_A sh_A sh_looks_A sh_openBits_A bl_A bl_settings_A od_A od_quarters_A st_A st_talls_A st_pairs_A hw_A hw_cutsFrom_A hw_chosen_A pw_A pw_leaves_A pw_first_A oe_kept oe_standing pa_signs pa_count sc_people sc_bride sh_count sh_hands sh_looks sh_openBits bl_flash bl_settings od_tired od_quarters st_rows st_columns st_rise st_talls st_pairs st_changed hw_cutsFrom_4 hw_chosen_5 pw_leaves pw_first pw_people pw_count)) E (c_X1_solve l D cI cJ cZ cS N hw_A hw_cutsFrom_A hw_chosen_A sh_A sh_looks_A sh_openBits_A hw_cutsFrom hw_chosen sh_count sh_hands sh_looks sh_openBits sc_people H.size v3 hw_cutsFrom_4 hw_chosen_5 hv37) F_X1_solve rfl rfl tw_386 tw_387 tw_388 hP hD hS hA [16, 17, 18, 6, 7, 8] [0, 1, 2, 3, 4, 5, 9, 10, 11, 12, 13, 14, 15, 19, 20, 21] [0, 1, 2, 3, 4, 5, 19, 20, 21, 6, 7, 8, 9, 10, 11, 12, 16, 17, 18, 13, 14, 15] rfl rfl (by decide) (by decide) (by decide) rfl (by decide) ⟨by decide, by decide⟩ rfl hl.1 (Nat.le_of_ble_eq_true rfl) ⟨by decide, by decide⟩ rfl dX8_heads_37 (fun H locs hP hD hS => ?_)
    refine lv_istore_n (pc := 40) (lv' := [(2, .int v3), (0, .ref oe_A), (1, .int p1)]) hx hb dX8_heads_40 rfl hl (by decide) rfl (fun ls hl => ?_)
    refine lv_iload_n (pc := 41) hx hb dX8_heads_41 rfl (lv_at hl 0 rfl) ?_
    refine lv_bipush (pc := 42) (v := (-6 : Int32)) hx hb dX8_heads_42 (by decide) ?_
    refine r_ic_eq (pc := 44) (tgt := 52) hx hb dX8_heads_44 (by decide) hf (fun hf => ?_) (fun hf => ?_)
    · refine lv_iload_n (pc := 52) hx hb dX8_heads_52 rfl (lv_at hl 0 rfl) ?_
      cases hf
      exact hQ _ _ _ _ _ dX8_heads_53 rfl hP hD hS
    · refine lv_iload_n (pc := 47) hx hb dX8_heads_47 rfl (lv_at hl 2 rfl) ?_
      refine lv_iconst (pc := 48) (v := (-1 : Int32)) hx hb dX8_heads_48 (by decide) ?_
      refine r_ic_ne (pc := 49) (tgt := 54) hx hb dX8_heads_49 (by decide) hf (fun hf => ?_) (fun hf => ?_)
      · refine lv_aload_n (pc := 54) hx hb dX8_heads_54 rfl (lv_at hl 1 rfl) ?_
        refine va_get (pc := 55) (D := D) (ci := 8) (v := .ref hw_A) (C := RX8) (T := TX8) (N := 6) hx hb hts inG8 hown hK hP 0 rfl rfl 3 (by decide) (hts _ tw_197) (fun _ h9 => h9) rfl dX8_heads_55 ?_
        refine lv_iload_n (pc := 58) hx hb dX8_heads_58 rfl (lv_at hl 2 rfl) ?_
        obtain ⟨v6, hv59, hf⟩ := bd_e hf
        refine ro_Vi (pc := 59) (As := [.int p1]) (rest := []) E (c_X1_shotOf l D cI cJ cZ cS hw_A hw_cutsFrom_A hw_chosen_A hw_cutsFrom_4 hw_chosen_5 p1 v6 hv59) F_X1_shotOf rfl rfl tw_416 tw_417 tw_418 (hP.subm [16, 17, 18] rfl) ⟨by decide, by decide⟩ rfl hl.1 (Nat.le_of_ble_eq_true rfl) ⟨by decide, by decide⟩ rfl dX8_heads_59 ?_
        cases hf
        exact hQ _ _ _ _ _ dX8_heads_62 rfl hP hD hS
      · refine lv_iload_n (pc := 52) hx hb dX8_heads_52 rfl (lv_at hl 0 rfl) ?_
        cases hf
        exact hQ _ _ _ _ _ dX8_heads_53 rfl hP hD hS
  refine r_ic_eq (pc := 2) (tgt := 19) hx hb dX8_heads_2 (by decide) hf (fun hf => ?_) (fun hf => ?_)
  · exact K1  _ _ _ hf hP hD hS hl
  · refine lv_aload_n (pc := 5) hx hb dX8_heads_5 rfl (lv_at hl 0 rfl) ?_
    refine va_get (pc := 6) (D := D) (ci := 8) (v := .ref sc_A) (C := RX8) (T := TX8) (N := 6) hx hb hts inG8 hown hK hP 0 rfl rfl 1 (by decide) (hts _ tw_195) (fun _ h9 => h9) rfl dX8_heads_6 ?_
    refine lv_iload_n (pc := 9) hx hb dX8_heads_9 rfl (lv_at hl 1 rfl) ?_
    obtain ⟨v2, hv10, hf⟩ := bd_e hf
    refine ro_Vi (pc := 10) (As := [.int p1]) (rest := []) E (c_X5_has l D cI cJ cZ cS sc_A sh_A bl_A od_A st_A sc_people sc_bride p1 v2 hv10) F_X5_has rfl rfl tw_235 tw_236 tw_237 (hP.subm [5] rfl) ⟨by decide, by decide⟩ rfl hl.1 (Nat.le_of_ble_eq_true rfl) ⟨by decide, by decide⟩ rfl dX8_heads_10 ?_
    refine r_if_ne (pc := 13) (tgt := 19) hx hb dX8_heads_13 (by decide) hf (fun hf => ?_) (fun hf => ?_)
    · exact K1  _ _ _ hf hP hD hS hl
    · refine lv_bipush (pc := 16) (v := (-6 : Int32)) hx hb dX8_heads_16 (by decide) ?_
      cases hf
      exact hQ _ _ _ _ _ dX8_heads_18 rfl hP hD hS
theorem F_X8_left : CalF yX8_left cX8_left 1 (some .int) 0 := ⟨tw_423, tw_1, by decide +kernel⟩
set_option maxRecDepth 100000 in
set_option maxHeartbeats 4000000 in
theorem c_X8_left (l : Launch) (D : va_G) (cI cJ cZ cS : ClassId) (N : Nat) (oe_A oe_kept_A oe_standing_A pa_A pa_signs_A sc_A sh_A sh_looks_A sh_openBits_A bl_A bl_settings_A od_A od_quarters_A st_A st_talls_A st_pairs_A hw_A hw_cutsFrom_A hw_chosen_A pw_A pw_leaves_A pw_first_A : Nat) (oe_kept : Nat → Option Nat) (oe_standing : Nat → Int32) (pa_signs : Nat → Int32) (pa_count : Int32) (sc_people : Int32) (sc_bride : Int32) (sh_count : Int32) (sh_hands : Int32) (sh_looks : Nat → Int32) (sh_openBits : Nat → Int32) (bl_flash : Int32) (bl_settings : Nat → Int32) (od_tired : Int32) (od_quarters : Nat → Int32) (st_rows : Int32) (st_columns : Int32) (st_rise : Int32) (st_talls : Nat → Int32) (st_pairs : Nat → Int32) (st_changed : Int32) (hw_cutsFrom : Nat → Int32) (hw_chosen : Nat → Int32) (pw_leaves : Nat → Int64) (pw_first : Nat → Int32) (pw_people : Int32) (pw_count : Int32) (r : Int32) (hf : f_X8_left N sc_people sh_count sh_hands sh_openBits = some r) : RoC l D cI cJ cZ cS yX8_left cX8_left 1 (some .int) 4 89 (w_OE cI cJ cZ cS oe_A oe_kept_A oe_standing_A pa_A pa_signs_A sc_A sh_A sh_looks_A sh_openBits_A bl_A bl_settings_A od_A od_quarters_A st_A st_talls_A st_pairs_A hw_A hw_cutsFrom_A hw_chosen_A pw_A pw_leaves_A pw_first_A oe_kept oe_standing pa_signs pa_count sc_people sc_bride sh_count sh_hands sh_looks sh_openBits bl_flash bl_settings od_tired od_quarters st_rows st_columns st_rise st_talls st_pairs st_changed hw_cutsFrom hw_chosen pw_leaves pw_first pw_people pw_count) [.ref oe_A] (some (.int r)) := by
  refine ro_in_i (own := RX8) (by decide +kernel) rfl (Nat.le_of_ble_eq_true rfl) ?_
  intro p e s m args below meth c ls Q E hQ hP hl
  obtain ⟨hx, hb, hml, hown, hts, hK, hN, hAO⟩ := id E
  have hl : lv_has ls 1 [(0, .ref oe_A)] := hl
  unfold f_X8_left at hf
  refine lv_aload_n (pc := 0) hx hb dX8_left_0 rfl (lv_at hl 0 rfl) ?_
  refine va_get (pc := 1) (D := D) (ci := 8) (v := .ref sc_A) (C := RX8) (T := TX8) (N := 6) hx hb hts inG8 hown hK hP 0 rfl rfl 1 (by decide) (hts _ tw_195) (fun _ h9 => h9) rfl dX8_left_1 ?_
  refine va_getN (pc := 4) (D := D) (ci := 5) (v := .ref sh_A) (C := RX5) (T := TX5) (N := 6) hx hb hts inG5 hown hK hP 5 rfl rfl 2 (by decide) (va_Nw.use rfl (hN _ tn_15)) (fun _ h9 => h9) rfl dX8_left_4 ?_
  refine lv_aload_n (pc := 7) hx hb dX8_left_7 rfl (lv_at hl 0 rfl) ?_
  refine va_get (pc := 8) (D := D) (ci := 8) (v := .ref sc_A) (C := RX8) (T := TX8) (N := 6) hx hb hts inG8 hown hK hP 0 rfl rfl 1 (by decide) (hts _ tw_195) (fun _ h9 => h9) rfl dX8_left_8 ?_
  refine va_getN (pc := 11) (D := D) (ci := 5) (v := .int sc_people) (C := RX5) (T := TX5) (N := 6) hx hb hts inG5 hown hK hP 5 rfl rfl 0 (by decide) (va_Nw.use rfl (hN _ tn_13)) (fun _ h9 => h9) rfl dX8_left_11 ?_
  obtain ⟨v1, hv14, hf⟩ := bd_e hf
  refine ro_Vi (pc := 14) (As := [.int sc_people]) (rest := []) E (c_X6_fewestLeft l D cI cJ cZ cS N sh_A sh_looks_A sh_openBits_A sh_count sh_hands sh_looks sh_openBits sc_people v1 hv14) F_X6_fewestLeft rfl rfl tw_424 tw_425 tw_426 (hP.subm [6, 7, 8] rfl) ⟨by decide, by decide⟩ rfl hl.1 (Nat.le_of_ble_eq_true rfl) ⟨by decide, by decide⟩ rfl dX8_left_14 ?_
  exact hQ _ _ _ dX8_left_17 hf
theorem F_X8_blink : CalF yX8_blink cX8_blink 4 (some .int) 3 := ⟨tw_437, tw_1, by decide +kernel⟩
set_option maxRecDepth 100000 in
set_option maxHeartbeats 4000000 in
theorem c_X8_blink (l : Launch) (D : va_G) (cI cJ cZ cS : ClassId) (oe_A oe_kept_A oe_standing_A pa_A pa_signs_A sc_A sh_A sh_looks_A sh_openBits_A bl_A bl_settings_A od_A od_quarters_A st_A st_talls_A st_pairs_A hw_A hw_cutsFrom_A hw_chosen_A pw_A pw_leaves_A pw_first_A : Nat) (oe_kept : Nat → Option Nat) (oe_standing : Nat → Int32) (pa_signs : Nat → Int32) (pa_count : Int32) (sc_people : Int32) (sc_bride : Int32) (sh_count : Int32) (sh_hands : Int32) (sh_looks : Nat → Int32) (sh_openBits : Nat → Int32) (bl_flash : Int32) (bl_settings : Nat → Int32) (od_tired : Int32) (od_quarters : Nat → Int32) (st_rows : Int32) (st_columns : Int32) (st_rise : Int32) (st_talls : Nat → Int32) (st_pairs : Nat → Int32) (st_changed : Int32) (hw_cutsFrom : Nat → Int32) (hw_chosen : Nat → Int32) (pw_leaves : Nat → Int64) (pw_first : Nat → Int32) (pw_people : Int32) (pw_count : Int32) (p1 : Int32) (p2 : Int32) (p3 : Int32) (sz : Nat) (r : Int32) (r_bl_settings : Nat → Int32) (hf : f_X8_blink sc_people bl_settings p1 p2 p3 = some (r, r_bl_settings)) : RwC l D cI cJ cZ cS yX8_blink cX8_blink 4 (some .int) 2 46 (w_OE cI cJ cZ cS oe_A oe_kept_A oe_standing_A pa_A pa_signs_A sc_A sh_A sh_looks_A sh_openBits_A bl_A bl_settings_A od_A od_quarters_A st_A st_talls_A st_pairs_A hw_A hw_cutsFrom_A hw_chosen_A pw_A pw_leaves_A pw_first_A oe_kept oe_standing pa_signs pa_count sc_people sc_bride sh_count sh_hands sh_looks sh_openBits bl_flash bl_settings od_tired od_quarters st_rows st_columns st_rise st_talls st_pairs st_changed hw_cutsFrom hw_chosen pw_leaves pw_first pw_people pw_count) sz [.ref oe_A, .int p1, .int p2, .int p3] (some (.int r)) (w_OE cI cJ cZ cS oe_A oe_kept_A oe_standing_A pa_A pa_signs_A sc_A sh_A sh_looks_A sh_openBits_A bl_A bl_settings_A od_A od_quarters_A st_A st_talls_A st_pairs_A hw_A hw_cutsFrom_A hw_chosen_A pw_A pw_leaves_A pw_first_A oe_kept oe_standing pa_signs pa_count sc_people sc_bride sh_count sh_hands sh_looks sh_openBits bl_flash r_bl_settings od_tired od_quarters st_rows st_columns st_rise st_talls st_pairs st_changed hw_cutsFrom hw_chosen pw_leaves pw_first pw_people pw_count) := by
  refine rw_in_i (own := RX8) (by decide +kernel) rfl (Nat.le_of_ble_eq_true rfl) ?_
  intro p e s m args below meth c ls Q A E hA hQ hP hD hS hl
  obtain ⟨hx, hb, hml, hown, hts, hK, hN, hAO⟩ := id E
  have hl : lv_has ls 4 [(0, .ref oe_A), (1, .int p1), (2, .int p2), (3, .int p3)] := hl
  unfold f_X8_blink at hf
  obtain ⟨H, hH⟩ : ∃ H, H = s.heap := ⟨_, rfl⟩
  obtain ⟨locs, hlocs⟩ : ∃ L : List Loc, L = [] := ⟨_, rfl⟩
  rw [show W p l e (roR 2 46) s m args below meth c s.heap [] 0 0 Q (F0 m 0 ls []) = W p l e (roR 2 46) s m args below meth c H locs 0 0 Q (F0 m 0 ls []) by rw [hH, hlocs]]
  replace hS : va_S A s.heap H locs := by rw [hH, hlocs]; exact hS
  replace hP : va_P D vwCl (w_OE cI cJ cZ cS oe_A oe_kept_A oe_standing_A pa_A pa_signs_A sc_A sh_A sh_looks_A sh_openBits_A bl_A bl_settings_A od_A od_quarters_A st_A st_talls_A st_pairs_A hw_A hw_cutsFrom_A hw_chosen_A pw_A pw_leaves_A pw_first_A oe_kept oe_standing pa_signs pa_count sc_people sc_bride sh_count sh_hands sh_looks sh_openBits bl_flash bl_settings od_tired od_quarters st_rows st_columns st_rise st_talls st_pairs st_changed hw_cutsFrom hw_chosen pw_leaves pw_first pw_people pw_count) H := by rw [hH]; exact hP
  clear hH hlocs
  refine lv_aload_n (pc := 0) hx hb dX8_blink_0 rfl (lv_at hl 0 rfl) ?_
  refine va_get (pc := 1) (D := D) (ci := 8) (v := .ref sc_A) (C := RX8) (T := TX8) (N := 6) hx hb hts inG8 hown hK hP 0 rfl rfl 1 (by decide) (hts _ tw_195) (fun _ h9 => h9) rfl dX8_blink_1 ?_
  refine lv_iload_n (pc := 4) hx hb dX8_blink_4 rfl (lv_at hl 1 rfl) ?_
  obtain ⟨v1, hv5, hf⟩ := bd_e hf
  refine ro_Vi (pc := 5) (As := [.int p1]) (rest := []) E (c_X5_has l D cI cJ cZ cS sc_A sh_A bl_A od_A st_A sc_people sc_bride p1 v1 hv5) F_X5_has rfl rfl tw_235 tw_236 tw_237 (hP.subm [5] rfl) ⟨by decide, by decide⟩ rfl hl.1 (Nat.le_of_ble_eq_true rfl) ⟨by decide, by decide⟩ rfl dX8_blink_5 ?_
  refine r_if_ne (pc := 8) (tgt := 13) hx hb dX8_blink_8 (by decide) hf (fun hf => ?_) (fun hf => ?_)
  · refine lv_aload_n (pc := 13) hx hb dX8_blink_13 rfl (lv_at hl 0 rfl) ?_
    refine va_get (pc := 14) (D := D) (ci := 8) (v := .ref sc_A) (C := RX8) (T := TX8) (N := 6) hx hb hts inG8 hown hK hP 0 rfl rfl 1 (by decide) (hts _ tw_195) (fun _ h9 => h9) rfl dX8_blink_14 ?_
    refine va_getN (pc := 17) (D := D) (ci := 5) (v := .ref bl_A) (C := RX5) (T := TX5) (N := 6) hx hb hts inG5 hown hK hP 5 rfl rfl 3 (by decide) (va_Nw.use rfl (hN _ tn_16)) (fun _ h9 => h9) rfl dX8_blink_17 ?_
    refine lv_iload_n (pc := 20) hx hb dX8_blink_20 rfl (lv_at hl 1 rfl) ?_
    refine lv_iload_n (pc := 21) hx hb dX8_blink_21 rfl (lv_at hl 2 rfl) ?_
    refine lv_iload_n (pc := 22) hx hb dX8_blink_22 rfl (lv_at hl 3 rfl) ?_
    obtain ⟨v2, hv23, hf⟩ := bd_e hf
    refine ro_Vi (pc := 23) (As := [.int p1, .int p2, .int p3]) (rest := []) E (c_X0_fits l D cI cJ cZ cS bl_A bl_settings_A bl_flash bl_settings p1 p2 p3 v2 hv23) F_X0_fits rfl rfl tw_438 tw_439 tw_440 (hP.subm [9, 10] rfl) ⟨by decide, by decide⟩ rfl hl.1 (Nat.le_of_ble_eq_true rfl) ⟨by decide, by decide⟩ rfl dX8_blink_23 ?_
    refine r_if_ne (pc := 26) (tgt := 32) hx hb dX8_blink_26 (by decide) hf (fun hf => ?_) (fun hf => ?_)
    · refine lv_aload_n (pc := 32) hx hb dX8_blink_32 rfl (lv_at hl 0 rfl) ?_
      refine va_get (pc := 33) (D := D) (ci := 8) (v := .ref sc_A) (C := RX8) (T := TX8) (N := 6) hx hb hts inG8 hown hK hP 0 rfl rfl 1 (by decide) (hts _ tw_195) (fun _ h9 => h9) rfl dX8_blink_33 ?_
      refine va_getN (pc := 36) (D := D) (ci := 5) (v := .ref bl_A) (C := RX5) (T := TX5) (N := 6) hx hb hts inG5 hown hK hP 5 rfl rfl 3 (by decide) (va_Nw.use rfl (hN _ tn_16)) (fun _ h9 => h9) rfl dX8_blink_36 ?_
      refine lv_iload_n (pc := 39) hx hb dX8_blink_39 rfl (lv_at hl 1 rfl) ?_
      refine lv_iload_n (pc := 40) hx hb dX8_blink_40 rfl (lv_at hl 2 rfl) ?_
      refine lv_iload_n (pc := 41) hx hb dX8_blink_41 rfl (lv_at hl 3 rfl) ?_
      obtain ⟨⟨v3, bl_settings_4⟩, hv42, hf⟩ := bd_e hf
      refine rw_Vi (pc := 42) (As := [.int p1, .int p2, .int p3]) (rest := []) (wr := [(oe_A, .inr (8, [.ref pa_A, .ref sc_A, .ref oe_kept_A, .ref hw_A, .ref pw_A, .ref oe_standing_A])), (oe_kept_A, .inl (cS, 2, .inr (.inr (.inr (.inr oe_kept))))), (oe_standing_A, .inl (cI, 8, .inl oe_standing)), (pa_A, .inr (3, [.ref pa_signs_A, .int pa_count])), (pa_signs_A, .inl (cI, 40, .inl pa_signs)), (sc_A, .inr (5, [.int sc_people, .int sc_bride, .ref sh_A, .ref bl_A, .ref od_A, .ref st_A])), (sh_A, .inr (6, [.int sh_count, .int sh_hands, .ref sh_looks_A, .ref sh_openBits_A])), (sh_looks_A, .inl (cI, 80, .inl sh_looks)), (sh_openBits_A, .inl (cI, 10, .inl sh_openBits)), (od_A, .inr (2, [.int od_tired, .ref od_quarters_A])), (od_quarters_A, .inl (cI, 8, .inl od_quarters)), (st_A, .inr (7, [.int st_rows, .int st_columns, .int st_rise, .ref st_talls_A, .ref st_pairs_A, .int st_changed])), (st_talls_A, .inl (cI, 8, .inl st_talls)), (st_pairs_A, .inl (cI, 64, .inl st_pairs)), (hw_A, .inr (1, [.ref hw_cutsFrom_A, .ref hw_chosen_A])), (hw_cutsFrom_A, .inl (cI, 80, .inl hw_cutsFrom)), (hw_chosen_A, .inl (cI, 8, .inl hw_chosen)), (pw_A, .inr (4, [.ref pw_leaves_A, .ref pw_first_A, .int pw_people, .int pw_count])), (pw_leaves_A, .inl (cJ, 64, .inr (.inl pw_leaves))), (pw_first_A, .inl (cI, 8, .inl pw_first))]) (wn := (w_OE cI cJ cZ cS oe_A oe_kept_A oe_standing_A pa_A pa_signs_A sc_A sh_A sh_looks_A sh_openBits_A bl_A bl_settings_A od_A od_quarters_A st_A st_talls_A st_pairs_A hw_A hw_cutsFrom_A hw_chosen_A pw_A pw_leaves_A pw_first_A oe_kept oe_standing pa_signs pa_count sc_people sc_bride sh_count sh_hands sh_looks sh_openBits bl_flash bl_settings_4 od_tired od_quarters st_rows st_columns st_rise st_talls st_pairs st_changed hw_cutsFrom hw_chosen pw_leaves pw_first pw_people pw_count)) E (c_X0_change l D cI cJ cZ cS bl_A bl_settings_A bl_flash bl_settings p1 p2 p3 H.size v3 bl_settings_4 hv42) F_X0_change rfl rfl tw_450 tw_451 tw_452 hP hD hS hA [9, 10] [0, 1, 2, 3, 4, 5, 6, 7, 8, 11, 12, 13, 14, 15, 16, 17, 18, 19, 20, 21] [0, 1, 2, 3, 4, 5, 6, 7, 8, 20, 21, 9, 10, 11, 12, 13, 14, 15, 16, 17, 18, 19] rfl rfl (by decide) (by decide) (by decide) rfl (by decide) ⟨by decide, by decide⟩ rfl hl.1 (Nat.le_of_ble_eq_true rfl) ⟨by decide, by decide⟩ rfl dX8_blink_42 (fun H locs hP hD hS => ?_)
      cases hf
      exact hQ _ _ _ _ _ dX8_blink_45 rfl hP hD hS
    · refine lv_bipush (pc := 29) (v := (-2 : Int32)) hx hb dX8_blink_29 (by decide) ?_
      cases hf
      exact hQ _ _ _ _ _ dX8_blink_31 rfl hP hD hS
  · refine lv_iconst (pc := 11) (v := (-1 : Int32)) hx hb dX8_blink_11 (by decide) ?_
    cases hf
    exact hQ _ _ _ _ _ dX8_blink_12 rfl hP hD hS
theorem F_X8_flash : CalF yX8_flash cX8_flash 3 (some .int) 1 := ⟨tw_457, tw_1, by decide +kernel⟩
set_option maxRecDepth 100000 in
set_option maxHeartbeats 4000000 in
theorem c_X8_flash (l : Launch) (D : va_G) (cI cJ cZ cS : ClassId) (oe_A oe_kept_A oe_standing_A pa_A pa_signs_A sc_A sh_A sh_looks_A sh_openBits_A bl_A bl_settings_A od_A od_quarters_A st_A st_talls_A st_pairs_A hw_A hw_cutsFrom_A hw_chosen_A pw_A pw_leaves_A pw_first_A : Nat) (oe_kept : Nat → Option Nat) (oe_standing : Nat → Int32) (pa_signs : Nat → Int32) (pa_count : Int32) (sc_people : Int32) (sc_bride : Int32) (sh_count : Int32) (sh_hands : Int32) (sh_looks : Nat → Int32) (sh_openBits : Nat → Int32) (bl_flash : Int32) (bl_settings : Nat → Int32) (od_tired : Int32) (od_quarters : Nat → Int32) (st_rows : Int32) (st_columns : Int32) (st_rise : Int32) (st_talls : Nat → Int32) (st_pairs : Nat → Int32) (st_changed : Int32) (hw_cutsFrom : Nat → Int32) (hw_chosen : Nat → Int32) (pw_leaves : Nat → Int64) (pw_first : Nat → Int32) (pw_people : Int32) (pw_count : Int32) (p1 : Int32) (sz : Nat) (r : Int32) (r_bl_flash : Int32) (hf : f_X8_flash bl_flash p1 = some (r, r_bl_flash)) : RwC l D cI cJ cZ cS yX8_flash cX8_flash 3 (some .int) 1 22 (w_OE cI cJ cZ cS oe_A oe_kept_A oe_standing_A pa_A pa_signs_A sc_A sh_A sh_looks_A sh_openBits_A bl_A bl_settings_A od_A od_quarters_A st_A st_talls_A st_pairs_A hw_A hw_cutsFrom_A hw_chosen_A pw_A pw_leaves_A pw_first_A oe_kept oe_standing pa_signs pa_count sc_people sc_bride sh_count sh_hands sh_looks sh_openBits bl_flash bl_settings od_tired od_quarters st_rows st_columns st_rise st_talls st_pairs st_changed hw_cutsFrom hw_chosen pw_leaves pw_first pw_people pw_count) sz [.ref oe_A, .int p1] (some (.int r)) (w_OE cI cJ cZ cS oe_A oe_kept_A oe_standing_A pa_A pa_signs_A sc_A sh_A sh_looks_A sh_openBits_A bl_A bl_settings_A od_A od_quarters_A st_A st_talls_A st_pairs_A hw_A hw_cutsFrom_A hw_chosen_A pw_A pw_leaves_A pw_first_A oe_kept oe_standing pa_signs pa_count sc_people sc_bride sh_count sh_hands sh_looks sh_openBits r_bl_flash bl_settings od_tired od_quarters st_rows st_columns st_rise st_talls st_pairs st_changed hw_cutsFrom hw_chosen pw_leaves pw_first pw_people pw_count) := by
  refine rw_in_i (own := RX8) (by decide +kernel) rfl (Nat.le_of_ble_eq_true rfl) ?_
  intro p e s m args below meth c ls Q A E hA hQ hP hD hS hl
  obtain ⟨hx, hb, hml, hown, hts, hK, hN, hAO⟩ := id E
  have hl : lv_has ls 3 [(0, .ref oe_A), (1, .int p1)] := hl
  unfold f_X8_flash at hf
  obtain ⟨H, hH⟩ : ∃ H, H = s.heap := ⟨_, rfl⟩
  obtain ⟨locs, hlocs⟩ : ∃ L : List Loc, L = [] := ⟨_, rfl⟩
  rw [show W p l e (roR 1 22) s m args below meth c s.heap [] 0 0 Q (F0 m 0 ls []) = W p l e (roR 1 22) s m args below meth c H locs 0 0 Q (F0 m 0 ls []) by rw [hH, hlocs]]
  replace hS : va_S A s.heap H locs := by rw [hH, hlocs]; exact hS
  replace hP : va_P D vwCl (w_OE cI cJ cZ cS oe_A oe_kept_A oe_standing_A pa_A pa_signs_A sc_A sh_A sh_looks_A sh_openBits_A bl_A bl_settings_A od_A od_quarters_A st_A st_talls_A st_pairs_A hw_A hw_cutsFrom_A hw_chosen_A pw_A pw_leaves_A pw_first_A oe_kept oe_standing pa_signs pa_count sc_people sc_bride sh_count sh_hands sh_looks sh_openBits bl_flash bl_settings od_tired od_quarters st_rows st_columns st_rise st_talls st_pairs st_changed hw_cutsFrom hw_chosen pw_leaves pw_first pw_people pw_count) H := by rw [hH]; exact hP
  clear hH hlocs
  refine lv_iload_n (pc := 0) hx hb dX8_flash_0 rfl (lv_at hl 1 rfl) ?_
  refine lv_iconst (pc := 1) (v := (-1 : Int32)) hx hb dX8_flash_1 (by decide) ?_
  refine lv_sipush (pc := 2) (v := (999 : Int32)) hx hb dX8_flash_2 (by decide) ?_
  obtain ⟨v1, hv5, hf⟩ := bd_e hf
  refine ro_Si (pc := 5) (As := [.int p1, .int (-1 : Int32), .int (999 : Int32)]) (rest := []) E (c_X8_within l D cI cJ cZ cS p1 (-1 : Int32) (999 : Int32) v1 hv5) F_X8_within tw_217 tw_218  va_P_nil ⟨by decide, by decide⟩ rfl hl.1 (Nat.le_of_ble_eq_true rfl) ⟨by decide, by decide⟩ rfl dX8_flash_5 ?_
  refine r_if_ne (pc := 8) (tgt := 14) hx hb dX8_flash_8 (by decide) hf (fun hf => ?_) (fun hf => ?_)
  · refine lv_aload_n (pc := 14) hx hb dX8_flash_14 rfl (lv_at hl 0 rfl) ?_
    refine va_get (pc := 15) (D := D) (ci := 8) (v := .ref sc_A) (C := RX8) (T := TX8) (N := 6) hx hb hts inG8 hown hK hP 0 rfl rfl 1 (by decide) (hts _ tw_195) (fun _ h9 => h9) rfl dX8_flash_15 ?_
    refine va_getN (pc := 18) (D := D) (ci := 5) (v := .ref bl_A) (C := RX5) (T := TX5) (N := 6) hx hb hts inG5 hown hK hP 5 rfl rfl 3 (by decide) (va_Nw.use rfl (hN _ tn_16)) (fun _ h9 => h9) rfl dX8_flash_18 ?_
    refine va_getN (pc := 21) (D := D) (ci := 0) (v := .int bl_flash) (C := RX0) (T := TX0) (N := 2) hx hb hts inG0 hown hK hP 9 rfl rfl 0 (by decide) (va_Nw.use rfl (hN _ tn_7)) (fun _ h9 => h9) rfl dX8_flash_21 ?_
    refine lv_istore_n (pc := 24) (lv' := [(2, .int bl_flash), (0, .ref oe_A), (1, .int p1)]) hx hb dX8_flash_24 rfl hl (by decide) rfl (fun ls hl => ?_)
    refine lv_aload_n (pc := 25) hx hb dX8_flash_25 rfl (lv_at hl 1 rfl) ?_
    refine va_get (pc := 26) (D := D) (ci := 8) (v := .ref sc_A) (C := RX8) (T := TX8) (N := 6) hx hb hts inG8 hown hK hP 0 rfl rfl 1 (by decide) (hts _ tw_195) (fun _ h9 => h9) rfl dX8_flash_26 ?_
    refine va_getN (pc := 29) (D := D) (ci := 5) (v := .ref bl_A) (C := RX5) (T := TX5) (N := 6) hx hb hts inG5 hown hK hP 5 rfl rfl 3 (by decide) (va_Nw.use rfl (hN _ tn_16)) (fun _ h9 => h9) rfl dX8_flash_29 ?_
    refine lv_iload_n (pc := 32) hx hb dX8_flash_32 rfl (lv_at hl 2 rfl) ?_
    refine va_putN (pc := 33) (D := D) (ci := 0) (v := .int p1) (ty := .int) (C := RX0) (T := TX0) (N := 2) hx hb hts inG0 tyX0 tyX0_ok nmX0 hown hK hP hD hS 9 rfl rfl 0 (by decide) (va_Nw.use rfl (hN _ tn_7)) (fun _ h9 => h9) rfl (by decide +kernel) rfl rfl (Nat.le_of_ble_eq_true rfl) dX8_flash_33 (fun H locs hP hD hS => ?_)
    have hP : va_P D vwCl (w_OE cI cJ cZ cS oe_A oe_kept_A oe_standing_A pa_A pa_signs_A sc_A sh_A sh_looks_A sh_openBits_A bl_A bl_settings_A od_A od_quarters_A st_A st_talls_A st_pairs_A hw_A hw_cutsFrom_A hw_chosen_A pw_A pw_leaves_A pw_first_A oe_kept oe_standing pa_signs pa_count sc_people sc_bride sh_count sh_hands sh_looks sh_openBits p1 bl_settings od_tired od_quarters st_rows st_columns st_rise st_talls st_pairs st_changed hw_cutsFrom hw_chosen pw_leaves pw_first pw_people pw_count) H := hP
    have hD : va_D A (w_OE cI cJ cZ cS oe_A oe_kept_A oe_standing_A pa_A pa_signs_A sc_A sh_A sh_looks_A sh_openBits_A bl_A bl_settings_A od_A od_quarters_A st_A st_talls_A st_pairs_A hw_A hw_cutsFrom_A hw_chosen_A pw_A pw_leaves_A pw_first_A oe_kept oe_standing pa_signs pa_count sc_people sc_bride sh_count sh_hands sh_looks sh_openBits p1 bl_settings od_tired od_quarters st_rows st_columns st_rise st_talls st_pairs st_changed hw_cutsFrom hw_chosen pw_leaves pw_first pw_people pw_count) := hD
    refine lv_iload_n (pc := 36) hx hb dX8_flash_36 rfl (lv_at hl 0 rfl) ?_
    cases hf
    exact hQ _ _ _ _ _ dX8_flash_37 rfl hP hD hS
  · refine lv_bipush (pc := 11) (v := (-2 : Int32)) hx hb dX8_flash_11 (by decide) ?_
    cases hf
    exact hQ _ _ _ _ _ dX8_flash_13 rfl hP hD hS
theorem F_X8_open : CalF yX8_open cX8_open 2 (some .int) 1 := ⟨tw_461, tw_1, by decide +kernel⟩
set_option maxRecDepth 100000 in
set_option maxHeartbeats 4000000 in
theorem c_X8_open (l : Launch) (D : va_G) (cI cJ cZ cS : ClassId) (N : Nat) (oe_A oe_kept_A oe_standing_A pa_A pa_signs_A sc_A sh_A sh_looks_A sh_openBits_A bl_A bl_settings_A od_A od_quarters_A st_A st_talls_A st_pairs_A hw_A hw_cutsFrom_A hw_chosen_A pw_A pw_leaves_A pw_first_A : Nat) (oe_kept : Nat → Option Nat) (oe_standing : Nat → Int32) (pa_signs : Nat → Int32) (pa_count : Int32) (sc_people : Int32) (sc_bride : Int32) (sh_count : Int32) (sh_hands : Int32) (sh_looks : Nat → Int32) (sh_openBits : Nat → Int32) (bl_flash : Int32) (bl_settings : Nat → Int32) (od_tired : Int32) (od_quarters : Nat → Int32) (st_rows : Int32) (st_columns : Int32) (st_rise : Int32) (st_talls : Nat → Int32) (st_pairs : Nat → Int32) (st_changed : Int32) (hw_cutsFrom : Nat → Int32) (hw_chosen : Nat → Int32) (pw_leaves : Nat → Int64) (pw_first : Nat → Int32) (pw_people : Int32) (pw_count : Int32) (p1 : Int32) (r : Int32) (hf : f_X8_open N sc_people bl_flash bl_settings p1 = some r) : RoC l D cI cJ cZ cS yX8_open cX8_open 2 (some .int) 3 69 (w_OE cI cJ cZ cS oe_A oe_kept_A oe_standing_A pa_A pa_signs_A sc_A sh_A sh_looks_A sh_openBits_A bl_A bl_settings_A od_A od_quarters_A st_A st_talls_A st_pairs_A hw_A hw_cutsFrom_A hw_chosen_A pw_A pw_leaves_A pw_first_A oe_kept oe_standing pa_signs pa_count sc_people sc_bride sh_count sh_hands sh_looks sh_openBits bl_flash bl_settings od_tired od_quarters st_rows st_columns st_rise st_talls st_pairs st_changed hw_cutsFrom hw_chosen pw_leaves pw_first pw_people pw_count) [.ref oe_A, .int p1] (some (.int r)) := by
  refine ro_in_i (own := RX8) (by decide +kernel) rfl (Nat.le_of_ble_eq_true rfl) ?_
  intro p e s m args below meth c ls Q E hQ hP hl
  obtain ⟨hx, hb, hml, hown, hts, hK, hN, hAO⟩ := id E
  have hl : lv_has ls 2 [(0, .ref oe_A), (1, .int p1)] := hl
  unfold f_X8_open at hf
  refine lv_iload_n (pc := 0) hx hb dX8_open_0 rfl (lv_at hl 1 rfl) ?_
  refine lv_iconst (pc := 1) (v := (0 : Int32)) hx hb dX8_open_1 (by decide) ?_
  refine lv_sipush (pc := 2) (v := (999 : Int32)) hx hb dX8_open_2 (by decide) ?_
  obtain ⟨v1, hv5, hf⟩ := bd_e hf
  refine ro_Si (pc := 5) (As := [.int p1, .int (0 : Int32), .int (999 : Int32)]) (rest := []) E (c_X8_within l D cI cJ cZ cS p1 (0 : Int32) (999 : Int32) v1 hv5) F_X8_within tw_217 tw_218  va_P_nil ⟨by decide, by decide⟩ rfl hl.1 (Nat.le_of_ble_eq_true rfl) ⟨by decide, by decide⟩ rfl dX8_open_5 ?_
  refine r_if_ne (pc := 8) (tgt := 14) hx hb dX8_open_8 (by decide) hf (fun hf => ?_) (fun hf => ?_)
  · refine lv_aload_n (pc := 14) hx hb dX8_open_14 rfl (lv_at hl 0 rfl) ?_
    refine va_get (pc := 15) (D := D) (ci := 8) (v := .ref sc_A) (C := RX8) (T := TX8) (N := 6) hx hb hts inG8 hown hK hP 0 rfl rfl 1 (by decide) (hts _ tw_195) (fun _ h9 => h9) rfl dX8_open_15 ?_
    refine va_getN (pc := 18) (D := D) (ci := 5) (v := .ref bl_A) (C := RX5) (T := TX5) (N := 6) hx hb hts inG5 hown hK hP 5 rfl rfl 3 (by decide) (va_Nw.use rfl (hN _ tn_16)) (fun _ h9 => h9) rfl dX8_open_18 ?_
    refine lv_iload_n (pc := 21) hx hb dX8_open_21 rfl (lv_at hl 1 rfl) ?_
    refine lv_aload_n (pc := 22) hx hb dX8_open_22 rfl (lv_at hl 0 rfl) ?_
    refine va_get (pc := 23) (D := D) (ci := 8) (v := .ref sc_A) (C := RX8) (T := TX8) (N := 6) hx hb hts inG8 hown hK hP 0 rfl rfl 1 (by decide) (hts _ tw_195) (fun _ h9 => h9) rfl dX8_open_23 ?_
    refine va_getN (pc := 26) (D := D) (ci := 5) (v := .int sc_people) (C := RX5) (T := TX5) (N := 6) hx hb hts inG5 hown hK hP 5 rfl rfl 0 (by decide) (va_Nw.use rfl (hN _ tn_13)) (fun _ h9 => h9) rfl dX8_open_26 ?_
    obtain ⟨v2, hv29, hf⟩ := bd_e hf
    refine ro_Vi (pc := 29) (As := [.int p1, .int sc_people]) (rest := []) E (c_X0_openAt l D cI cJ cZ cS N bl_A bl_settings_A bl_flash bl_settings p1 sc_people v2 hv29) F_X0_openAt rfl rfl tw_462 tw_463 tw_464 (hP.subm [9, 10] rfl) ⟨by decide, by decide⟩ rfl hl.1 (Nat.le_of_ble_eq_true rfl) ⟨by decide, by decide⟩ rfl dX8_open_29 ?_
    exact hQ _ _ _ dX8_open_32 hf
  · refine lv_bipush (pc := 11) (v := (-2 : Int32)) hx hb dX8_open_11 (by decide) ?_
    exact hQ _ _ _ dX8_open_13 hf
theorem F_X8_fire : CalF yX8_fire cX8_fire 5 (some .int) 3 := ⟨tw_477, tw_1, by decide +kernel⟩
set_option maxRecDepth 100000 in
set_option maxHeartbeats 4000000 in
theorem c_X8_fire (l : Launch) (D : va_G) (cI cJ cZ cS : ClassId) (N : Nat) (oe_A oe_kept_A oe_standing_A pa_A pa_signs_A sc_A sh_A sh_looks_A sh_openBits_A bl_A bl_settings_A od_A od_quarters_A st_A st_talls_A st_pairs_A hw_A hw_cutsFrom_A hw_chosen_A pw_A pw_leaves_A pw_first_A : Nat) (oe_kept : Nat → Option Nat) (oe_standing : Nat → Int32) (pa_signs : Nat → Int32) (pa_count : Int32) (sc_people : Int32) (sc_bride : Int32) (sh_count : Int32) (sh_hands : Int32) (sh_looks : Nat → Int32) (sh_openBits : Nat → Int32) (bl_flash : Int32) (bl_settings : Nat → Int32) (od_tired : Int32) (od_quarters : Nat → Int32) (st_rows : Int32) (st_columns : Int32) (st_rise : Int32) (st_talls : Nat → Int32) (st_pairs : Nat → Int32) (st_changed : Int32) (hw_cutsFrom : Nat → Int32) (hw_chosen : Nat → Int32) (pw_leaves : Nat → Int64) (pw_first : Nat → Int32) (pw_people : Int32) (pw_count : Int32) (p1 : Int32) (p2 : Int32) (p3 : Int32) (r : Int32) (hf : f_X8_fire N sc_people bl_flash bl_settings p1 p2 p3 = some r) : RoC l D cI cJ cZ cS yX8_fire cX8_fire 5 (some .int) 4 96 (w_OE cI cJ cZ cS oe_A oe_kept_A oe_standing_A pa_A pa_signs_A sc_A sh_A sh_looks_A sh_openBits_A bl_A bl_settings_A od_A od_quarters_A st_A st_talls_A st_pairs_A hw_A hw_cutsFrom_A hw_chosen_A pw_A pw_leaves_A pw_first_A oe_kept oe_standing pa_signs pa_count sc_people sc_bride sh_count sh_hands sh_looks sh_openBits bl_flash bl_settings od_tired od_quarters st_rows st_columns st_rise st_talls st_pairs st_changed hw_cutsFrom hw_chosen pw_leaves pw_first pw_people pw_count) [.ref oe_A, .int p1, .int p2, .int p3] (some (.int r)) := by
  refine ro_in_i (own := RX8) (by decide +kernel) rfl (Nat.le_of_ble_eq_true rfl) ?_
  intro p e s m args below meth c ls Q E hQ hP hl
  obtain ⟨hx, hb, hml, hown, hts, hK, hN, hAO⟩ := id E
  have hl : lv_has ls 5 [(0, .ref oe_A), (1, .int p1), (2, .int p2), (3, .int p3)] := hl
  unfold f_X8_fire at hf
  refine lv_iload_n (pc := 0) hx hb dX8_fire_0 rfl (lv_at hl 1 rfl) ?_
  refine lv_iconst (pc := 1) (v := (0 : Int32)) hx hb dX8_fire_1 (by decide) ?_
  refine lv_sipush (pc := 2) (v := (999 : Int32)) hx hb dX8_fire_2 (by decide) ?_
  obtain ⟨v1, hv5, hf⟩ := bd_e hf
  refine ro_Si (pc := 5) (As := [.int p1, .int (0 : Int32), .int (999 : Int32)]) (rest := []) E (c_X8_within l D cI cJ cZ cS p1 (0 : Int32) (999 : Int32) v1 hv5) F_X8_within tw_217 tw_218  va_P_nil ⟨by decide, by decide⟩ rfl hl.1 (Nat.le_of_ble_eq_true rfl) ⟨by decide, by decide⟩ rfl dX8_fire_5 ?_
  obtain ⟨k2, hk2, hf⟩ := lc0_e hf
  have K2 : ∀  (ls : Array Slot), k2 = some r → lv_has ls 5 [] → W p l e (roR 4 96) s m args below meth c s.heap [] 0 0 Q (F0 m 22 ls []) := by
    intro  ls hf hl
    rw [hk2] at hf
    refine lv_bipush (pc := 22) (v := (-2 : Int32)) hx hb dX8_fire_22 (by decide) ?_
    exact hQ _ _ _ dX8_fire_24 hf
  refine r_if_eq (pc := 8) (tgt := 22) hx hb dX8_fire_8 (by decide) hf (fun hf => ?_) (fun hf => ?_)
  · exact K2  _ hf (lv_sub hl [] rfl)
  · refine lv_iload_n (pc := 11) hx hb dX8_fire_11 rfl (lv_at hl 2 rfl) ?_
    refine lv_iload_n (pc := 12) hx hb dX8_fire_12 rfl (lv_at hl 1 rfl) ?_
    refine lv_sipush (pc := 13) (v := (999 : Int32)) hx hb dX8_fire_13 (by decide) ?_
    obtain ⟨v3, hv16, hf⟩ := bd_e hf
    refine ro_Si (pc := 16) (As := [.int p2, .int p1, .int (999 : Int32)]) (rest := []) E (c_X8_within l D cI cJ cZ cS p2 p1 (999 : Int32) v3 hv16) F_X8_within tw_217 tw_218  va_P_nil ⟨by decide, by decide⟩ rfl hl.1 (Nat.le_of_ble_eq_true rfl) ⟨by decide, by decide⟩ rfl dX8_fire_16 ?_
    refine r_if_ne (pc := 19) (tgt := 25) hx hb dX8_fire_19 (by decide) hf (fun hf => ?_) (fun hf => ?_)
    · refine lv_iload_n (pc := 25) hx hb dX8_fire_25 rfl (lv_at hl 3 rfl) ?_
      refine lv_iconst (pc := 26) (v := (0 : Int32)) hx hb dX8_fire_26 (by decide) ?_
      refine lv_iconst (pc := 27) (v := (2 : Int32)) hx hb dX8_fire_27 (by decide) ?_
      obtain ⟨v4, hv28, hf⟩ := bd_e hf
      refine ro_Si (pc := 28) (As := [.int p3, .int (0 : Int32), .int (2 : Int32)]) (rest := []) E (c_X8_within l D cI cJ cZ cS p3 (0 : Int32) (2 : Int32) v4 hv28) F_X8_within tw_217 tw_218  va_P_nil ⟨by decide, by decide⟩ rfl hl.1 (Nat.le_of_ble_eq_true rfl) ⟨by decide, by decide⟩ rfl dX8_fire_28 ?_
      refine r_if_ne (pc := 31) (tgt := 37) hx hb dX8_fire_31 (by decide) hf (fun hf => ?_) (fun hf => ?_)
      · refine lv_iload_n (pc := 37) hx hb dX8_fire_37 rfl (lv_at hl 3 rfl) ?_
        refine lv_iconst (pc := 38) (v := (2 : Int32)) hx hb dX8_fire_38 (by decide) ?_
        refine r_ic_ne (pc := 39) (tgt := 62) hx hb dX8_fire_39 (by decide) hf (fun hf => ?_) (fun hf => ?_)
        · refine lv_aload_n (pc := 62) hx hb dX8_fire_62 rfl (lv_at hl 0 rfl) ?_
          refine va_get (pc := 63) (D := D) (ci := 8) (v := .ref sc_A) (C := RX8) (T := TX8) (N := 6) hx hb hts inG8 hown hK hP 0 rfl rfl 1 (by decide) (hts _ tw_195) (fun _ h9 => h9) rfl dX8_fire_63 ?_
          refine va_getN (pc := 66) (D := D) (ci := 5) (v := .ref bl_A) (C := RX5) (T := TX5) (N := 6) hx hb hts inG5 hown hK hP 5 rfl rfl 3 (by decide) (va_Nw.use rfl (hN _ tn_16)) (fun _ h9 => h9) rfl dX8_fire_66 ?_
          refine lv_iload_n (pc := 69) hx hb dX8_fire_69 rfl (lv_at hl 1 rfl) ?_
          refine lv_iload_n (pc := 70) hx hb dX8_fire_70 rfl (lv_at hl 2 rfl) ?_
          refine lv_aload_n (pc := 71) hx hb dX8_fire_71 rfl (lv_at hl 0 rfl) ?_
          refine va_get (pc := 72) (D := D) (ci := 8) (v := .ref sc_A) (C := RX8) (T := TX8) (N := 6) hx hb hts inG8 hown hK hP 0 rfl rfl 1 (by decide) (hts _ tw_195) (fun _ h9 => h9) rfl dX8_fire_72 ?_
          refine va_getN (pc := 75) (D := D) (ci := 5) (v := .int sc_people) (C := RX5) (T := TX5) (N := 6) hx hb hts inG5 hown hK hP 5 rfl rfl 0 (by decide) (va_Nw.use rfl (hN _ tn_13)) (fun _ h9 => h9) rfl dX8_fire_75 ?_
          obtain ⟨v5, hv78, hf⟩ := bd_e hf
          refine ro_Vi (pc := 78) (As := [.int p1, .int p2, .int sc_people]) (rest := []) E (c_X0_bestTenth l D cI cJ cZ cS N bl_A bl_settings_A bl_flash bl_settings p1 p2 sc_people v5 hv78) F_X0_bestTenth rfl rfl tw_483 tw_484 tw_485 (hP.subm [9, 10] rfl) ⟨by decide, by decide⟩ rfl hl.1 (Nat.le_of_ble_eq_true rfl) ⟨by decide, by decide⟩ rfl dX8_fire_78 ?_
          refine lv_istore (pc := 81) (lv' := [(4, .int v5), (0, .ref oe_A), (1, .int p1), (2, .int p2), (3, .int p3)]) hx hb dX8_fire_81 hl (by decide) rfl (fun ls hl => ?_)
          refine lv_iload_n (pc := 83) hx hb dX8_fire_83 rfl (lv_at hl 4 rfl) ?_
          refine r_if_ne (pc := 84) (tgt := 92) hx hb dX8_fire_84 (by decide) hf (fun hf => ?_) (fun hf => ?_)
          · refine lv_aload_n (pc := 92) hx hb dX8_fire_92 rfl (lv_at hl 1 rfl) ?_
            refine va_get (pc := 93) (D := D) (ci := 8) (v := .ref sc_A) (C := RX8) (T := TX8) (N := 6) hx hb hts inG8 hown hK hP 0 rfl rfl 1 (by decide) (hts _ tw_195) (fun _ h9 => h9) rfl dX8_fire_93 ?_
            refine va_getN (pc := 96) (D := D) (ci := 5) (v := .ref bl_A) (C := RX5) (T := TX5) (N := 6) hx hb hts inG5 hown hK hP 5 rfl rfl 3 (by decide) (va_Nw.use rfl (hN _ tn_16)) (fun _ h9 => h9) rfl dX8_fire_96 ?_
            refine lv_iload (pc := 99) hx hb dX8_fire_99 (lv_at hl 0 rfl) ?_
            refine lv_aload_n (pc := 101) hx hb dX8_fire_101 rfl (lv_at hl 1 rfl) ?_
            refine va_get (pc := 102) (D := D) (ci := 8) (v := .ref sc_A) (C := RX8) (T := TX8) (N := 6) hx hb hts inG8 hown hK hP 0 rfl rfl 1 (by decide) (hts _ tw_195) (fun _ h9 => h9) rfl dX8_fire_102 ?_
            refine va_getN (pc := 105) (D := D) (ci := 5) (v := .int sc_people) (C := RX5) (T := TX5) (N := 6) hx hb hts inG5 hown hK hP 5 rfl rfl 0 (by decide) (va_Nw.use rfl (hN _ tn_13)) (fun _ h9 => h9) rfl dX8_fire_105 ?_
            obtain ⟨v6, hv108, hf⟩ := bd_e hf
            refine ro_Vi (pc := 108) (As := [.int v5, .int sc_people]) (rest := []) E (c_X0_openAt l D cI cJ cZ cS N bl_A bl_settings_A bl_flash bl_settings v5 sc_people v6 hv108) F_X0_openAt rfl rfl tw_462 tw_463 tw_464 (hP.subm [9, 10] rfl) ⟨by decide, by decide⟩ rfl hl.1 (Nat.le_of_ble_eq_true rfl) ⟨by decide, by decide⟩ rfl dX8_fire_108 ?_
            obtain ⟨v7, hv111, hf⟩ := bd_e hf
            refine ro_Si (pc := 111) (As := [.int v6]) (rest := []) E (c_J6_bitCount_0f7a4 l D cI cJ cZ cS v6 v7 hv111) F_J6_bitCount_0f7a4 tw_488 tw_338  va_P_nil ⟨by decide, by decide⟩ rfl hl.1 (Nat.le_of_ble_eq_true rfl) ⟨by decide, by decide⟩ rfl dX8_fire_111 ?_
            exact hQ _ _ _ dX8_fire_114 hf
          · refine lv_iload (pc := 87) hx hb dX8_fire_87 (lv_at hl 0 rfl) ?_
            refine lv_goto (pc := 89) (tgt := 114) hx hb dX8_fire_89 (by decide) ?_
            exact hQ _ _ _ dX8_fire_114 hf
        · refine lv_aload_n (pc := 42) hx hb dX8_fire_42 rfl (lv_at hl 0 rfl) ?_
          refine va_get (pc := 43) (D := D) (ci := 8) (v := .ref sc_A) (C := RX8) (T := TX8) (N := 6) hx hb hts inG8 hown hK hP 0 rfl rfl 1 (by decide) (hts _ tw_195) (fun _ h9 => h9) rfl dX8_fire_43 ?_
          refine va_getN (pc := 46) (D := D) (ci := 5) (v := .ref bl_A) (C := RX5) (T := TX5) (N := 6) hx hb hts inG5 hown hK hP 5 rfl rfl 3 (by decide) (va_Nw.use rfl (hN _ tn_16)) (fun _ h9 => h9) rfl dX8_fire_46 ?_
          refine lv_iload_n (pc := 49) hx hb dX8_fire_49 rfl (lv_at hl 1 rfl) ?_
          refine lv_iload_n (pc := 50) hx hb dX8_fire_50 rfl (lv_at hl 2 rfl) ?_
          refine lv_aload_n (pc := 51) hx hb dX8_fire_51 rfl (lv_at hl 0 rfl) ?_
          refine va_get (pc := 52) (D := D) (ci := 8) (v := .ref sc_A) (C := RX8) (T := TX8) (N := 6) hx hb hts inG8 hown hK hP 0 rfl rfl 1 (by decide) (hts _ tw_195) (fun _ h9 => h9) rfl dX8_fire_52 ?_
          refine va_getN (pc := 55) (D := D) (ci := 5) (v := .int sc_people) (C := RX5) (T := TX5) (N := 6) hx hb hts inG5 hown hK hP 5 rfl rfl 0 (by decide) (va_Nw.use rfl (hN _ tn_13)) (fun _ h9 => h9) rfl dX8_fire_55 ?_
          obtain ⟨v8, hv58, hf⟩ := bd_e hf
          refine ro_Vi (pc := 58) (As := [.int p1, .int p2, .int sc_people]) (rest := []) E (c_X0_tenthsOfAll l D cI cJ cZ cS N bl_A bl_settings_A bl_flash bl_settings p1 p2 sc_people v8 hv58) F_X0_tenthsOfAll rfl rfl tw_478 tw_479 tw_480 (hP.subm [9, 10] rfl) ⟨by decide, by decide⟩ rfl hl.1 (Nat.le_of_ble_eq_true rfl) ⟨by decide, by decide⟩ rfl dX8_fire_58 ?_
          exact hQ _ _ _ dX8_fire_61 hf
      · refine lv_bipush (pc := 34) (v := (-2 : Int32)) hx hb dX8_fire_34 (by decide) ?_
        exact hQ _ _ _ dX8_fire_36 hf
    · exact K2  _ hf (lv_sub hl [] rfl)
