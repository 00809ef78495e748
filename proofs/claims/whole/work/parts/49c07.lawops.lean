set_option maxRecDepth 100000 in
theorem lo_single {p : Program} {l : Launch} {e : Env} {s : State} {m : MethodId} {args : Array Value} {below : List Frame} {meth : Method} {c : Code} {D : va_G} {cI cJ cZ cS : ClassId} (E : Ev p s m args c cL_law 4 RL D cI cJ cZ cS) {b L : Nat} {xs : Nat → Int32} (hX : va_X b L xs s s.heap) (hbl0 : b < s.heap.size) {i : Nat} (hi : i + 3 < L) (hL : L ≤ 2048) {oe_A mo_A : Nat} {ls : Array Slot} (hl : lv_has ls 4 [(0, .ref b), (1, .ref oe_A), (2, .ref mo_A), (3, .int (nI i))]) {ws : va_W} (hs : ST cI cJ cZ cS oe_A mo_A ws) {H : Heap} {locs : List Loc} (hP : va_P D vwCl ws H) (hD : va_D (fun q : Nat => s.heap.size ≤ q) ws) (hS : va_S (fun q : Nat => s.heap.size ≤ q) s.heap H locs) {cells slots : Nat} (hc : cells + 11 ≤ 600000 ∧ slots + 214 ≤ 7302250) {Q : State → Prop} (kk : ∀ (ws' : va_W) (H' : Heap) (locs' : List Loc), ST cI cJ cZ cS oe_A mo_A ws' → va_P D vwCl ws' H' → va_D (fun q : Nat => s.heap.size ≤ q) ws' → va_S (fun q : Nat => s.heap.size ≤ q) s.heap H' locs' → W p l e room_1 s m args below meth c H' locs' (cells + 11) (slots + 214) Q (F0 m 970 ls [])) : W p l e room_1 s m args below meth c H locs cells slots Q (F0 m 319 ls []) := by
  obtain ⟨hx, hb, hml, hown, hts, hG⟩ := id E
  have hA : ∀ q : Nat, s.heap.size ≤ q → (fun q : Nat => s.heap.size ≤ q) q := fun _ h => h
  have hbA : ¬ (fun q : Nat => s.heap.size ≤ q) b := Nat.not_le.mpr hbl0
  have hcs : cells ≤ room_1.cells ∧ slots ≤ room_1.slots := ⟨by show cells ≤ 600000; omega, by show slots ≤ 7302250; omega⟩
  have h_1 : vp_in (nI i + 1) L := by rw [nI_1]; exact vp_in_nI (by omega) (by omega)
  have h_2 : vp_in (nI i + 2) L := by rw [l_2, nI_add]; exact vp_in_nI (by omega) (by omega)
  have h_3 : vp_in (nI i + 3) L := by rw [l_3, nI_add]; exact vp_in_nI (by omega) (by omega)
  revert hP hD
  refine ST_el hs (G := fun ws => va_P D vwCl ws H → va_D (fun q : Nat => s.heap.size ≤ q) ws → W p l e room_1 s m args below meth c H locs cells slots Q (F0 m 319 ls [])) ?_
  intro oe_kept_A oe_standing_A pa_A pa_signs_A sc_A sh_A sh_looks_A sh_openBits_A bl_A bl_settings_A od_A od_quarters_A st_A st_talls_A st_pairs_A hw_A hw_cutsFrom_A hw_chosen_A pw_A pw_leaves_A pw_first_A mo_looks_A mo_period_A mo_shut_A mo_phase_A mo_quarters_A mo_tall_A mo_pairs_A mo_pad_A mo_cuts_A mo_at_A mo_first_A mo_kept_A mo_isKept_A oe_kept oe_standing pa_signs pa_count sc_people sc_bride sh_count sh_hands sh_looks sh_openBits bl_flash bl_settings od_tired od_quarters st_rows st_columns st_rise st_talls st_pairs st_changed hw_cutsFrom hw_chosen pw_leaves pw_first pw_people pw_count mo_people mo_shots mo_looks mo_bride mo_hands mo_period mo_shut mo_phase mo_flash mo_quarters mo_tired mo_rows mo_columns mo_rise mo_tall mo_pairs mo_pad mo_padMany mo_cuts mo_at mo_first mo_kept mo_isKept mo_keptAt mo_isWriting X0 X1 n c R C hpad hsh hbl hod hst hpw hk0 hk1 hP hD
  obtain ⟨N, r, f1, f2⟩ := pu_single hsh (xs (nI i + 1).toNatClampNeg)
  refine lv_aload_n (pc := 319) hx hb dL_law_319 rfl (lv_at hl 1 rfl) ?_
  refine lv_aload_n (pc := 320) hx hb dL_law_320 rfl (lv_at hl 0 rfl) ?_
  refine lv_iload_n (pc := 321) hx hb dL_law_321 rfl (lv_at hl 3 rfl) ?_
  refine lv_iconst (pc := 322) (v := (1 : Int32)) hx hb dL_law_322 (by decide) ?_
  refine lv_iadd (pc := 323) hx hb dL_law_323 ?_
  refine va_sld (pc := 324) hx hb hX hbl0 hbA hS h_1 dL_law_324 ?_
  refine ro_Vi (pc := 325) (rest := []) E (c_X8_single l D cI cJ cZ cS N oe_A oe_kept_A oe_standing_A pa_A pa_signs_A sc_A sh_A sh_looks_A sh_openBits_A bl_A bl_settings_A od_A od_quarters_A st_A st_talls_A st_pairs_A hw_A hw_cutsFrom_A hw_chosen_A pw_A pw_leaves_A pw_first_A oe_kept oe_standing pa_signs pa_count sc_people sc_bride sh_count sh_hands sh_looks sh_openBits bl_flash bl_settings od_tired od_quarters st_rows st_columns st_rise st_talls st_pairs st_changed hw_cutsFrom hw_chosen pw_leaves pw_first pw_people pw_count (xs (nI i + 1).toNatClampNeg) r f1) F_X8_single rfl rfl tw_321 tw_322 tw_323 hP.left ⟨by decide, by decide⟩ rfl hl.1 (Nat.le_of_ble_eq_true rfl) hcs rfl dL_law_325 ?_
  refine lv_aload_n (pc := 328) hx hb dL_law_328 rfl (lv_at hl 2 rfl) ?_
  refine lv_aload_n (pc := 329) hx hb dL_law_329 rfl (lv_at hl 0 rfl) ?_
  refine lv_iload_n (pc := 330) hx hb dL_law_330 rfl (lv_at hl 3 rfl) ?_
  refine lv_iconst (pc := 331) (v := (1 : Int32)) hx hb dL_law_331 (by decide) ?_
  refine lv_iadd (pc := 332) hx hb dL_law_332 ?_
  refine va_sld (pc := 333) hx hb hX hbl0 hbA hS h_1 dL_law_333 ?_
  refine ro_Vi (pc := 334) (rest := [.int r]) E (c_X9_single l D cI cJ cZ cS N mo_A mo_looks_A mo_period_A mo_shut_A mo_phase_A mo_quarters_A mo_tall_A mo_pairs_A mo_pad_A mo_cuts_A mo_at_A mo_first_A mo_kept_A mo_isKept_A mo_people mo_shots mo_looks mo_bride mo_hands mo_period mo_shut mo_phase mo_flash mo_quarters mo_tired mo_rows mo_columns mo_rise mo_tall mo_pairs mo_pad mo_padMany mo_cuts mo_at mo_first mo_kept mo_isKept mo_keptAt mo_isWriting (xs (nI i + 1).toNatClampNeg) r f2) F_X9_single rfl rfl tw_841 tw_842 tw_843 hP.right.left ⟨by decide, by decide⟩ rfl hl.1 (Nat.le_of_ble_eq_true rfl) hcs rfl dL_law_334 ?_
  refine lv_icmp_eq (pc := 337) (tgt := 970) hx hb dL_law_337 (by decide) (fun _ => ?_) (fun hne => absurd rfl hne)
  refine W.widen (k := cells + 11) (n := slots + 214) (by omega) (by omega) ?_
  exact kk _ H locs (ST_mk cI cJ cZ cS oe_A mo_A oe_kept_A oe_standing_A pa_A pa_signs_A sc_A sh_A sh_looks_A sh_openBits_A bl_A bl_settings_A od_A od_quarters_A st_A st_talls_A st_pairs_A hw_A hw_cutsFrom_A hw_chosen_A pw_A pw_leaves_A pw_first_A mo_looks_A mo_period_A mo_shut_A mo_phase_A mo_quarters_A mo_tall_A mo_pairs_A mo_pad_A mo_cuts_A mo_at_A mo_first_A mo_kept_A mo_isKept_A oe_kept oe_standing pa_signs pa_count sc_people sc_bride sh_count sh_hands sh_looks sh_openBits bl_flash bl_settings od_tired od_quarters st_rows st_columns st_rise st_talls st_pairs st_changed hw_cutsFrom hw_chosen pw_leaves pw_first pw_people pw_count mo_people mo_shots mo_looks mo_bride mo_hands mo_period mo_shut mo_phase mo_flash mo_quarters mo_tired mo_rows mo_columns mo_rise mo_tall mo_pairs mo_pad mo_padMany mo_cuts mo_at mo_first mo_kept mo_isKept mo_keptAt mo_isWriting X0 X1 n c R C hpad hsh hbl hod hst hpw hk0 hk1) hP hD hS
set_option maxRecDepth 100000 in
theorem lo_cover {p : Program} {l : Launch} {e : Env} {s : State} {m : MethodId} {args : Array Value} {below : List Frame} {meth : Method} {c : Code} {D : va_G} {cI cJ cZ cS : ClassId} (E : Ev p s m args c cL_law 4 RL D cI cJ cZ cS) {b L : Nat} {xs : Nat → Int32} (hX : va_X b L xs s s.heap) (hbl0 : b < s.heap.size) {i : Nat} (hi : i + 3 < L) (hL : L ≤ 2048) {oe_A mo_A : Nat} {ls : Array Slot} (hl : lv_has ls 4 [(0, .ref b), (1, .ref oe_A), (2, .ref mo_A), (3, .int (nI i))]) {ws : va_W} (hs : ST cI cJ cZ cS oe_A mo_A ws) {H : Heap} {locs : List Loc} (hP : va_P D vwCl ws H) (hD : va_D (fun q : Nat => s.heap.size ≤ q) ws) (hS : va_S (fun q : Nat => s.heap.size ≤ q) s.heap H locs) {cells slots : Nat} (hc : cells + 11 ≤ 600000 ∧ slots + 214 ≤ 7302250) {Q : State → Prop} (kk : ∀ (ws' : va_W) (H' : Heap) (locs' : List Loc), ST cI cJ cZ cS oe_A mo_A ws' → va_P D vwCl ws' H' → va_D (fun q : Nat => s.heap.size ≤ q) ws' → va_S (fun q : Nat => s.heap.size ≤ q) s.heap H' locs' → W p l e room_1 s m args below meth c H' locs' (cells + 11) (slots + 214) Q (F0 m 970 ls [])) : W p l e room_1 s m args below meth c H locs cells slots Q (F0 m 342 ls []) := by
  obtain ⟨hx, hb, hml, hown, hts, hG⟩ := id E
  have hA : ∀ q : Nat, s.heap.size ≤ q → (fun q : Nat => s.heap.size ≤ q) q := fun _ h => h
  have hbA : ¬ (fun q : Nat => s.heap.size ≤ q) b := Nat.not_le.mpr hbl0
  have hcs : cells ≤ room_1.cells ∧ slots ≤ room_1.slots := ⟨by show cells ≤ 600000; omega, by show slots ≤ 7302250; omega⟩
  have h_1 : vp_in (nI i + 1) L := by rw [nI_1]; exact vp_in_nI (by omega) (by omega)
  have h_2 : vp_in (nI i + 2) L := by rw [l_2, nI_add]; exact vp_in_nI (by omega) (by omega)
  have h_3 : vp_in (nI i + 3) L := by rw [l_3, nI_add]; exact vp_in_nI (by omega) (by omega)
  revert hP hD
  refine ST_el hs (G := fun ws => va_P D vwCl ws H → va_D (fun q : Nat => s.heap.size ≤ q) ws → W p l e room_1 s m args below meth c H locs cells slots Q (F0 m 342 ls [])) ?_
  intro oe_kept_A oe_standing_A pa_A pa_signs_A sc_A sh_A sh_looks_A sh_openBits_A bl_A bl_settings_A od_A od_quarters_A st_A st_talls_A st_pairs_A hw_A hw_cutsFrom_A hw_chosen_A pw_A pw_leaves_A pw_first_A mo_looks_A mo_period_A mo_shut_A mo_phase_A mo_quarters_A mo_tall_A mo_pairs_A mo_pad_A mo_cuts_A mo_at_A mo_first_A mo_kept_A mo_isKept_A oe_kept oe_standing pa_signs pa_count sc_people sc_bride sh_count sh_hands sh_looks sh_openBits bl_flash bl_settings od_tired od_quarters st_rows st_columns st_rise st_talls st_pairs st_changed hw_cutsFrom hw_chosen pw_leaves pw_first pw_people pw_count mo_people mo_shots mo_looks mo_bride mo_hands mo_period mo_shut mo_phase mo_flash mo_quarters mo_tired mo_rows mo_columns mo_rise mo_tall mo_pairs mo_pad mo_padMany mo_cuts mo_at mo_first mo_kept mo_isKept mo_keptAt mo_isWriting X0 X1 n c R C hpad hsh hbl hod hst hpw hk0 hk1 hP hD
  obtain ⟨N, r, f1, f2⟩ := pu_cover hsh
  refine lv_aload_n (pc := 342) hx hb dL_law_342 rfl (lv_at hl 1 rfl) ?_
  refine ro_Vi (pc := 343) (rest := []) E (c_X8_cover l D cI cJ cZ cS N oe_A oe_kept_A oe_standing_A pa_A pa_signs_A sc_A sh_A sh_looks_A sh_openBits_A bl_A bl_settings_A od_A od_quarters_A st_A st_talls_A st_pairs_A hw_A hw_cutsFrom_A hw_chosen_A pw_A pw_leaves_A pw_first_A oe_kept oe_standing pa_signs pa_count sc_people sc_bride sh_count sh_hands sh_looks sh_openBits bl_flash bl_settings od_tired od_quarters st_rows st_columns st_rise st_talls st_pairs st_changed hw_cutsFrom hw_chosen pw_leaves pw_first pw_people pw_count r f1) F_X8_cover rfl rfl tw_353 tw_354 tw_355 hP.left ⟨by decide, by decide⟩ rfl hl.1 (Nat.le_of_ble_eq_true rfl) hcs rfl dL_law_343 ?_
  refine lv_aload_n (pc := 346) hx hb dL_law_346 rfl (lv_at hl 2 rfl) ?_
  refine ro_Vi (pc := 347) (rest := [.int r]) E (c_X9_cover l D cI cJ cZ cS N mo_A mo_looks_A mo_period_A mo_shut_A mo_phase_A mo_quarters_A mo_tall_A mo_pairs_A mo_pad_A mo_cuts_A mo_at_A mo_first_A mo_kept_A mo_isKept_A mo_people mo_shots mo_looks mo_bride mo_hands mo_period mo_shut mo_phase mo_flash mo_quarters mo_tired mo_rows mo_columns mo_rise mo_tall mo_pairs mo_pad mo_padMany mo_cuts mo_at mo_first mo_kept mo_isKept mo_keptAt mo_isWriting r f2) F_X9_cover rfl rfl tw_857 tw_858 tw_859 hP.right.left ⟨by decide, by decide⟩ rfl hl.1 (Nat.le_of_ble_eq_true rfl) hcs rfl dL_law_347 ?_
  refine lv_icmp_eq (pc := 350) (tgt := 970) hx hb dL_law_350 (by decide) (fun _ => ?_) (fun hne => absurd rfl hne)
  refine W.widen (k := cells + 11) (n := slots + 214) (by omega) (by omega) ?_
  exact kk _ H locs (ST_mk cI cJ cZ cS oe_A mo_A oe_kept_A oe_standing_A pa_A pa_signs_A sc_A sh_A sh_looks_A sh_openBits_A bl_A bl_settings_A od_A od_quarters_A st_A st_talls_A st_pairs_A hw_A hw_cutsFrom_A hw_chosen_A pw_A pw_leaves_A pw_first_A mo_looks_A mo_period_A mo_shut_A mo_phase_A mo_quarters_A mo_tall_A mo_pairs_A mo_pad_A mo_cuts_A mo_at_A mo_first_A mo_kept_A mo_isKept_A oe_kept oe_standing pa_signs pa_count sc_people sc_bride sh_count sh_hands sh_looks sh_openBits bl_flash bl_settings od_tired od_quarters st_rows st_columns st_rise st_talls st_pairs st_changed hw_cutsFrom hw_chosen pw_leaves pw_first pw_people pw_count mo_people mo_shots mo_looks mo_bride mo_hands mo_period mo_shut mo_phase mo_flash mo_quarters mo_tired mo_rows mo_columns mo_rise mo_tall mo_pairs mo_pad mo_padMany mo_cuts mo_at mo_first mo_kept mo_isKept mo_keptAt mo_isWriting X0 X1 n c R C hpad hsh hbl hod hst hpw hk0 hk1) hP hD hS
set_option maxRecDepth 100000 in
theorem lo_spoils {p : Program} {l : Launch} {e : Env} {s : State} {m : MethodId} {args : Array Value} {below : List Frame} {meth : Method} {c : Code} {D : va_G} {cI cJ cZ cS : ClassId} (E : Ev p s m args c cL_law 4 RL D cI cJ cZ cS) {b L : Nat} {xs : Nat → Int32} (hX : va_X b L xs s s.heap) (hbl0 : b < s.heap.size) {i : Nat} (hi : i + 3 < L) (hL : L ≤ 2048) {oe_A mo_A : Nat} {ls : Array Slot} (hl : lv_has ls 4 [(0, .ref b), (1, .ref oe_A), (2, .ref mo_A), (3, .int (nI i))]) {ws : va_W} (hs : ST cI cJ cZ cS oe_A mo_A ws) {H : Heap} {locs : List Loc} (hP : va_P D vwCl ws H) (hD : va_D (fun q : Nat => s.heap.size ≤ q) ws) (hS : va_S (fun q : Nat => s.heap.size ≤ q) s.heap H locs) {cells slots : Nat} (hc : cells + 11 ≤ 600000 ∧ slots + 214 ≤ 7302250) {Q : State → Prop} (kk : ∀ (ws' : va_W) (H' : Heap) (locs' : List Loc), ST cI cJ cZ cS oe_A mo_A ws' → va_P D vwCl ws' H' → va_D (fun q : Nat => s.heap.size ≤ q) ws' → va_S (fun q : Nat => s.heap.size ≤ q) s.heap H' locs' → W p l e room_1 s m args below meth c H' locs' (cells + 11) (slots + 214) Q (F0 m 970 ls [])) : W p l e room_1 s m args below meth c H locs cells slots Q (F0 m 355 ls []) := by
  obtain ⟨hx, hb, hml, hown, hts, hG⟩ := id E
  have hA : ∀ q : Nat, s.heap.size ≤ q → (fun q : Nat => s.heap.size ≤ q) q := fun _ h => h
  have hbA : ¬ (fun q : Nat => s.heap.size ≤ q) b := Nat.not_le.mpr hbl0
  have hcs : cells ≤ room_1.cells ∧ slots ≤ room_1.slots := ⟨by show cells ≤ 600000; omega, by show slots ≤ 7302250; omega⟩
  have h_1 : vp_in (nI i + 1) L := by rw [nI_1]; exact vp_in_nI (by omega) (by omega)
  have h_2 : vp_in (nI i + 2) L := by rw [l_2, nI_add]; exact vp_in_nI (by omega) (by omega)
  have h_3 : vp_in (nI i + 3) L := by rw [l_3, nI_add]; exact vp_in_nI (by omega) (by omega)
  revert hP hD
  refine ST_el hs (G := fun ws => va_P D vwCl ws H → va_D (fun q : Nat => s.heap.size ≤ q) ws → W p l e room_1 s m args below meth c H locs cells slots Q (F0 m 355 ls [])) ?_
  intro oe_kept_A oe_standing_A pa_A pa_signs_A sc_A sh_A sh_looks_A sh_openBits_A bl_A bl_settings_A od_A od_quarters_A st_A st_talls_A st_pairs_A hw_A hw_cutsFrom_A hw_chosen_A pw_A pw_leaves_A pw_first_A mo_looks_A mo_period_A mo_shut_A mo_phase_A mo_quarters_A mo_tall_A mo_pairs_A mo_pad_A mo_cuts_A mo_at_A mo_first_A mo_kept_A mo_isKept_A oe_kept oe_standing pa_signs pa_count sc_people sc_bride sh_count sh_hands sh_looks sh_openBits bl_flash bl_settings od_tired od_quarters st_rows st_columns st_rise st_talls st_pairs st_changed hw_cutsFrom hw_chosen pw_leaves pw_first pw_people pw_count mo_people mo_shots mo_looks mo_bride mo_hands mo_period mo_shut mo_phase mo_flash mo_quarters mo_tired mo_rows mo_columns mo_rise mo_tall mo_pairs mo_pad mo_padMany mo_cuts mo_at mo_first mo_kept mo_isKept mo_keptAt mo_isWriting X0 X1 n c R C hpad hsh hbl hod hst hpw hk0 hk1 hP hD
  obtain ⟨N, r, f1, f2⟩ := pu_spoils hsh (xs (nI i + 1).toNatClampNeg)
  refine lv_aload_n (pc := 355) hx hb dL_law_355 rfl (lv_at hl 1 rfl) ?_
  refine lv_aload_n (pc := 356) hx hb dL_law_356 rfl (lv_at hl 0 rfl) ?_
  refine lv_iload_n (pc := 357) hx hb dL_law_357 rfl (lv_at hl 3 rfl) ?_
  refine lv_iconst (pc := 358) (v := (1 : Int32)) hx hb dL_law_358 (by decide) ?_
  refine lv_iadd (pc := 359) hx hb dL_law_359 ?_
  refine va_sld (pc := 360) hx hb hX hbl0 hbA hS h_1 dL_law_360 ?_
  refine ro_Vi (pc := 361) (rest := []) E (c_X8_spoils l D cI cJ cZ cS N oe_A oe_kept_A oe_standing_A pa_A pa_signs_A sc_A sh_A sh_looks_A sh_openBits_A bl_A bl_settings_A od_A od_quarters_A st_A st_talls_A st_pairs_A hw_A hw_cutsFrom_A hw_chosen_A pw_A pw_leaves_A pw_first_A oe_kept oe_standing pa_signs pa_count sc_people sc_bride sh_count sh_hands sh_looks sh_openBits bl_flash bl_settings od_tired od_quarters st_rows st_columns st_rise st_talls st_pairs st_changed hw_cutsFrom hw_chosen pw_leaves pw_first pw_people pw_count (xs (nI i + 1).toNatClampNeg) r f1) F_X8_spoils rfl rfl tw_365 tw_366 tw_367 hP.left ⟨by decide, by decide⟩ rfl hl.1 (Nat.le_of_ble_eq_true rfl) hcs rfl dL_law_361 ?_
  refine lv_aload_n (pc := 364) hx hb dL_law_364 rfl (lv_at hl 2 rfl) ?_
  refine lv_aload_n (pc := 365) hx hb dL_law_365 rfl (lv_at hl 0 rfl) ?_
  refine lv_iload_n (pc := 366) hx hb dL_law_366 rfl (lv_at hl 3 rfl) ?_
  refine lv_iconst (pc := 367) (v := (1 : Int32)) hx hb dL_law_367 (by decide) ?_
  refine lv_iadd (pc := 368) hx hb dL_law_368 ?_
  refine va_sld (pc := 369) hx hb hX hbl0 hbA hS h_1 dL_law_369 ?_
  refine ro_Vi (pc := 370) (rest := [.int r]) E (c_X9_spoils l D cI cJ cZ cS N mo_A mo_looks_A mo_period_A mo_shut_A mo_phase_A mo_quarters_A mo_tall_A mo_pairs_A mo_pad_A mo_cuts_A mo_at_A mo_first_A mo_kept_A mo_isKept_A mo_people mo_shots mo_looks mo_bride mo_hands mo_period mo_shut mo_phase mo_flash mo_quarters mo_tired mo_rows mo_columns mo_rise mo_tall mo_pairs mo_pad mo_padMany mo_cuts mo_at mo_first mo_kept mo_isKept mo_keptAt mo_isWriting (xs (nI i + 1).toNatClampNeg) r f2) F_X9_spoils rfl rfl tw_868 tw_869 tw_870 hP.right.left ⟨by decide, by decide⟩ rfl hl.1 (Nat.le_of_ble_eq_true rfl) hcs rfl dL_law_370 ?_
  refine lv_icmp_eq (pc := 373) (tgt := 970) hx hb dL_law_373 (by decide) (fun _ => ?_) (fun hne => absurd rfl hne)
  refine W.widen (k := cells + 11) (n := slots + 214) (by omega) (by omega) ?_
  exact kk _ H locs (ST_mk cI cJ cZ cS oe_A mo_A oe_kept_A oe_standing_A pa_A pa_signs_A sc_A sh_A sh_looks_A sh_openBits_A bl_A bl_settings_A od_A od_quarters_A st_A st_talls_A st_pairs_A hw_A hw_cutsFrom_A hw_chosen_A pw_A pw_leaves_A pw_first_A mo_looks_A mo_period_A mo_shut_A mo_phase_A mo_quarters_A mo_tall_A mo_pairs_A mo_pad_A mo_cuts_A mo_at_A mo_first_A mo_kept_A mo_isKept_A oe_kept oe_standing pa_signs pa_count sc_people sc_bride sh_count sh_hands sh_looks sh_openBits bl_flash bl_settings od_tired od_quarters st_rows st_columns st_rise st_talls st_pairs st_changed hw_cutsFrom hw_chosen pw_leaves pw_first pw_people pw_count mo_people mo_shots mo_looks mo_bride mo_hands mo_period mo_shut mo_phase mo_flash mo_quarters mo_tired mo_rows mo_columns mo_rise mo_tall mo_pairs mo_pad mo_padMany mo_cuts mo_at mo_first mo_kept mo_isKept mo_keptAt mo_isWriting X0 X1 n c R C hpad hsh hbl hod hst hpw hk0 hk1) hP hD hS
set_option maxRecDepth 100000 in
theorem lo_hands {p : Program} {l : Launch} {e : Env} {s : State} {m : MethodId} {args : Array Value} {below : List Frame} {meth : Method} {c : Code} {D : va_G} {cI cJ cZ cS : ClassId} (E : Ev p s m args c cL_law 4 RL D cI cJ cZ cS) {b L : Nat} {xs : Nat → Int32} (hX : va_X b L xs s s.heap) (hbl0 : b < s.heap.size) {i : Nat} (hi : i + 3 < L) (hL : L ≤ 2048) {oe_A mo_A : Nat} {ls : Array Slot} (hl : lv_has ls 4 [(0, .ref b), (1, .ref oe_A), (2, .ref mo_A), (3, .int (nI i))]) {ws : va_W} (hs : ST cI cJ cZ cS oe_A mo_A ws) {H : Heap} {locs : List Loc} (hP : va_P D vwCl ws H) (hD : va_D (fun q : Nat => s.heap.size ≤ q) ws) (hS : va_S (fun q : Nat => s.heap.size ≤ q) s.heap H locs) {cells slots : Nat} (hc : cells + 11 ≤ 600000 ∧ slots + 214 ≤ 7302250) {Q : State → Prop} (kk : ∀ (ws' : va_W) (H' : Heap) (locs' : List Loc), ST cI cJ cZ cS oe_A mo_A ws' → va_P D vwCl ws' H' → va_D (fun q : Nat => s.heap.size ≤ q) ws' → va_S (fun q : Nat => s.heap.size ≤ q) s.heap H' locs' → W p l e room_1 s m args below meth c H' locs' (cells + 11) (slots + 214) Q (F0 m 970 ls [])) : W p l e room_1 s m args below meth c H locs cells slots Q (F0 m 378 ls []) := by
  obtain ⟨hx, hb, hml, hown, hts, hG⟩ := id E
  have hA : ∀ q : Nat, s.heap.size ≤ q → (fun q : Nat => s.heap.size ≤ q) q := fun _ h => h
  have hbA : ¬ (fun q : Nat => s.heap.size ≤ q) b := Nat.not_le.mpr hbl0
  have hcs : cells ≤ room_1.cells ∧ slots ≤ room_1.slots := ⟨by show cells ≤ 600000; omega, by show slots ≤ 7302250; omega⟩
  have h_1 : vp_in (nI i + 1) L := by rw [nI_1]; exact vp_in_nI (by omega) (by omega)
  have h_2 : vp_in (nI i + 2) L := by rw [l_2, nI_add]; exact vp_in_nI (by omega) (by omega)
  have h_3 : vp_in (nI i + 3) L := by rw [l_3, nI_add]; exact vp_in_nI (by omega) (by omega)
  revert hP hD
  refine ST_el hs (G := fun ws => va_P D vwCl ws H → va_D (fun q : Nat => s.heap.size ≤ q) ws → W p l e room_1 s m args below meth c H locs cells slots Q (F0 m 378 ls [])) ?_
  intro oe_kept_A oe_standing_A pa_A pa_signs_A sc_A sh_A sh_looks_A sh_openBits_A bl_A bl_settings_A od_A od_quarters_A st_A st_talls_A st_pairs_A hw_A hw_cutsFrom_A hw_chosen_A pw_A pw_leaves_A pw_first_A mo_looks_A mo_period_A mo_shut_A mo_phase_A mo_quarters_A mo_tall_A mo_pairs_A mo_pad_A mo_cuts_A mo_at_A mo_first_A mo_kept_A mo_isKept_A oe_kept oe_standing pa_signs pa_count sc_people sc_bride sh_count sh_hands sh_looks sh_openBits bl_flash bl_settings od_tired od_quarters st_rows st_columns st_rise st_talls st_pairs st_changed hw_cutsFrom hw_chosen pw_leaves pw_first pw_people pw_count mo_people mo_shots mo_looks mo_bride mo_hands mo_period mo_shut mo_phase mo_flash mo_quarters mo_tired mo_rows mo_columns mo_rise mo_tall mo_pairs mo_pad mo_padMany mo_cuts mo_at mo_first mo_kept mo_isKept mo_keptAt mo_isWriting X0 X1 n c R C hpad hsh hbl hod hst hpw hk0 hk1 hP hD
  obtain ⟨r, r_sh_hands, r_mo_hands, f1, f2, hsh⟩ := pu_hands hsh (xs (nI i + 1).toNatClampNeg)
  refine lv_aload_n (pc := 378) hx hb dL_law_378 rfl (lv_at hl 1 rfl) ?_
  refine lv_aload_n (pc := 379) hx hb dL_law_379 rfl (lv_at hl 0 rfl) ?_
  refine lv_iload_n (pc := 380) hx hb dL_law_380 rfl (lv_at hl 3 rfl) ?_
  refine lv_iconst (pc := 381) (v := (1 : Int32)) hx hb dL_law_381 (by decide) ?_
  refine lv_iadd (pc := 382) hx hb dL_law_382 ?_
  refine va_sld (pc := 383) hx hb hX hbl0 hbA hS h_1 dL_law_383 ?_
  refine rwA (pc := 384) (rest := []) E (c_X8_hands l D cI cJ cZ cS oe_A oe_kept_A oe_standing_A pa_A pa_signs_A sc_A sh_A sh_looks_A sh_openBits_A bl_A bl_settings_A od_A od_quarters_A st_A st_talls_A st_pairs_A hw_A hw_cutsFrom_A hw_chosen_A pw_A pw_leaves_A pw_first_A oe_kept oe_standing pa_signs pa_count sc_people sc_bride sh_count sh_hands sh_looks sh_openBits bl_flash bl_settings od_tired od_quarters st_rows st_columns st_rise st_talls st_pairs st_changed hw_cutsFrom hw_chosen pw_leaves pw_first pw_people pw_count (xs (nI i + 1).toNatClampNeg) H.size r r_sh_hands f1) F_X8_hands rfl rfl tw_378 tw_379 tw_380 hP hD hS hA ⟨by decide, by decide⟩ rfl hl.1 (Nat.le_of_ble_eq_true rfl) hcs rfl dL_law_384 (fun H locs hP hD hS => ?_)
  refine lv_aload_n (pc := 387) hx hb dL_law_387 rfl (lv_at hl 2 rfl) ?_
  refine lv_aload_n (pc := 388) hx hb dL_law_388 rfl (lv_at hl 0 rfl) ?_
  refine lv_iload_n (pc := 389) hx hb dL_law_389 rfl (lv_at hl 3 rfl) ?_
  refine lv_iconst (pc := 390) (v := (1 : Int32)) hx hb dL_law_390 (by decide) ?_
  refine lv_iadd (pc := 391) hx hb dL_law_391 ?_
  refine va_sld (pc := 392) hx hb hX hbl0 hbA hS h_1 dL_law_392 ?_
  have hP := hP.perm (rot _ _ _)
  have hD := hD.perm (rot _ _ _)
  refine rwA (pc := 393) (rest := [.int r]) E (c_X9_hands l D cI cJ cZ cS mo_A mo_looks_A mo_period_A mo_shut_A mo_phase_A mo_quarters_A mo_tall_A mo_pairs_A mo_pad_A mo_cuts_A mo_at_A mo_first_A mo_kept_A mo_isKept_A mo_people mo_shots mo_looks mo_bride mo_hands mo_period mo_shut mo_phase mo_flash mo_quarters mo_tired mo_rows mo_columns mo_rise mo_tall mo_pairs mo_pad mo_padMany mo_cuts mo_at mo_first mo_kept mo_isKept mo_keptAt mo_isWriting (xs (nI i + 1).toNatClampNeg) H.size r r_mo_hands f2) F_X9_hands rfl rfl tw_872 tw_873 tw_874 hP hD hS hA ⟨by decide, by decide⟩ rfl hl.1 (Nat.le_of_ble_eq_true rfl) hcs rfl dL_law_393 (fun H locs hP hD hS => ?_)
  have hP := hP.perm (rot _ _ _)
  have hD := hD.perm (rot _ _ _)
  refine lv_icmp_eq (pc := 396) (tgt := 970) hx hb dL_law_396 (by decide) (fun _ => ?_) (fun hne => absurd rfl hne)
  refine W.widen (k := cells + 11) (n := slots + 214) (by omega) (by omega) ?_
  exact kk _ H locs (ST_mk cI cJ cZ cS oe_A mo_A oe_kept_A oe_standing_A pa_A pa_signs_A sc_A sh_A sh_looks_A sh_openBits_A bl_A bl_settings_A od_A od_quarters_A st_A st_talls_A st_pairs_A hw_A hw_cutsFrom_A hw_chosen_A pw_A pw_leaves_A pw_first_A mo_looks_A mo_period_A mo_shut_A mo_phase_A mo_quarters_A mo_tall_A mo_pairs_A mo_pad_A mo_cuts_A mo_at_A mo_first_A mo_kept_A mo_isKept_A oe_kept oe_standing pa_signs pa_count sc_people sc_bride sh_count r_sh_hands sh_looks sh_openBits bl_flash bl_settings od_tired od_quarters st_rows st_columns st_rise st_talls st_pairs st_changed hw_cutsFrom hw_chosen pw_leaves pw_first pw_people pw_count mo_people mo_shots mo_looks mo_bride r_mo_hands mo_period mo_shut mo_phase mo_flash mo_quarters mo_tired mo_rows mo_columns mo_rise mo_tall mo_pairs mo_pad mo_padMany mo_cuts mo_at mo_first mo_kept mo_isKept mo_keptAt mo_isWriting X0 X1 n c R C hpad hsh hbl hod hst hpw hk0 hk1) hP hD hS
set_option maxRecDepth 100000 in
theorem lo_heads {p : Program} {l : Launch} {e : Env} {s : State} {m : MethodId} {args : Array Value} {below : List Frame} {meth : Method} {c : Code} {D : va_G} {cI cJ cZ cS : ClassId} (E : Ev p s m args c cL_law 4 RL D cI cJ cZ cS) {b L : Nat} {xs : Nat → Int32} (hX : va_X b L xs s s.heap) (hbl0 : b < s.heap.size) {i : Nat} (hi : i + 3 < L) (hL : L ≤ 2048) {oe_A mo_A : Nat} {ls : Array Slot} (hl : lv_has ls 4 [(0, .ref b), (1, .ref oe_A), (2, .ref mo_A), (3, .int (nI i))]) {ws : va_W} (hs : ST cI cJ cZ cS oe_A mo_A ws) {H : Heap} {locs : List Loc} (hP : va_P D vwCl ws H) (hD : va_D (fun q : Nat => s.heap.size ≤ q) ws) (hS : va_S (fun q : Nat => s.heap.size ≤ q) s.heap H locs) {cells slots : Nat} (hc : cells + 11 ≤ 600000 ∧ slots + 214 ≤ 7302250) {Q : State → Prop} (kk : ∀ (ws' : va_W) (H' : Heap) (locs' : List Loc), ST cI cJ cZ cS oe_A mo_A ws' → va_P D vwCl ws' H' → va_D (fun q : Nat => s.heap.size ≤ q) ws' → va_S (fun q : Nat => s.heap.size ≤ q) s.heap H' locs' → W p l e room_1 s m args below meth c H' locs' (cells + 11) (slots + 214) Q (F0 m 970 ls [])) : W p l e room_1 s m args below meth c H locs cells slots Q (F0 m 401 ls []) := by
  obtain ⟨hx, hb, hml, hown, hts, hG⟩ := id E
  have hA : ∀ q : Nat, s.heap.size ≤ q → (fun q : Nat => s.heap.size ≤ q) q := fun _ h => h
  have hbA : ¬ (fun q : Nat => s.heap.size ≤ q) b := Nat.not_le.mpr hbl0
  have hcs : cells ≤ room_1.cells ∧ slots ≤ room_1.slots := ⟨by show cells ≤ 600000; omega, by show slots ≤ 7302250; omega⟩
  have h_1 : vp_in (nI i + 1) L := by rw [nI_1]; exact vp_in_nI (by omega) (by omega)
  have h_2 : vp_in (nI i + 2) L := by rw [l_2, nI_add]; exact vp_in_nI (by omega) (by omega)
  have h_3 : vp_in (nI i + 3) L := by rw [l_3, nI_add]; exact vp_in_nI (by omega) (by omega)
  revert hP hD
  refine ST_el hs (G := fun ws => va_P D vwCl ws H → va_D (fun q : Nat => s.heap.size ≤ q) ws → W p l e room_1 s m args below meth c H locs cells slots Q (F0 m 401 ls [])) ?_
  intro oe_kept_A oe_standing_A pa_A pa_signs_A sc_A sh_A sh_looks_A sh_openBits_A bl_A bl_settings_A od_A od_quarters_A st_A st_talls_A st_pairs_A hw_A hw_cutsFrom_A hw_chosen_A pw_A pw_leaves_A pw_first_A mo_looks_A mo_period_A mo_shut_A mo_phase_A mo_quarters_A mo_tall_A mo_pairs_A mo_pad_A mo_cuts_A mo_at_A mo_first_A mo_kept_A mo_isKept_A oe_kept oe_standing pa_signs pa_count sc_people sc_bride sh_count sh_hands sh_looks sh_openBits bl_flash bl_settings od_tired od_quarters st_rows st_columns st_rise st_talls st_pairs st_changed hw_cutsFrom hw_chosen pw_leaves pw_first pw_people pw_count mo_people mo_shots mo_looks mo_bride mo_hands mo_period mo_shut mo_phase mo_flash mo_quarters mo_tired mo_rows mo_columns mo_rise mo_tall mo_pairs mo_pad mo_padMany mo_cuts mo_at mo_first mo_kept mo_isKept mo_keptAt mo_isWriting X0 X1 n c R C hpad hsh hbl hod hst hpw hk0 hk1 hP hD
  obtain ⟨N, r, r_hw_cutsFrom, r_hw_chosen, r_mo_cuts, f1, f2⟩ := pu_heads hsh hw_cutsFrom hw_chosen mo_cuts (xs (nI i + 1).toNatClampNeg)
  refine lv_aload_n (pc := 401) hx hb dL_law_401 rfl (lv_at hl 1 rfl) ?_
  refine lv_aload_n (pc := 402) hx hb dL_law_402 rfl (lv_at hl 0 rfl) ?_
  refine lv_iload_n (pc := 403) hx hb dL_law_403 rfl (lv_at hl 3 rfl) ?_
  refine lv_iconst (pc := 404) (v := (1 : Int32)) hx hb dL_law_404 (by decide) ?_
  refine lv_iadd (pc := 405) hx hb dL_law_405 ?_
  refine va_sld (pc := 406) hx hb hX hbl0 hbA hS h_1 dL_law_406 ?_
  refine rwA (pc := 407) (rest := []) E (c_X8_heads l D cI cJ cZ cS N oe_A oe_kept_A oe_standing_A pa_A pa_signs_A sc_A sh_A sh_looks_A sh_openBits_A bl_A bl_settings_A od_A od_quarters_A st_A st_talls_A st_pairs_A hw_A hw_cutsFrom_A hw_chosen_A pw_A pw_leaves_A pw_first_A oe_kept oe_standing pa_signs pa_count sc_people sc_bride sh_count sh_hands sh_looks sh_openBits bl_flash bl_settings od_tired od_quarters st_rows st_columns st_rise st_talls st_pairs st_changed hw_cutsFrom hw_chosen pw_leaves pw_first pw_people pw_count (xs (nI i + 1).toNatClampNeg) H.size r r_hw_cutsFrom r_hw_chosen f1) F_X8_heads rfl rfl tw_382 tw_383 tw_384 hP hD hS hA ⟨by decide, by decide⟩ rfl hl.1 (Nat.le_of_ble_eq_true rfl) hcs rfl dL_law_407 (fun H locs hP hD hS => ?_)
  refine lv_aload_n (pc := 410) hx hb dL_law_410 rfl (lv_at hl 2 rfl) ?_
  refine lv_aload_n (pc := 411) hx hb dL_law_411 rfl (lv_at hl 0 rfl) ?_
  refine lv_iload_n (pc := 412) hx hb dL_law_412 rfl (lv_at hl 3 rfl) ?_
  refine lv_iconst (pc := 413) (v := (1 : Int32)) hx hb dL_law_413 (by decide) ?_
  refine lv_iadd (pc := 414) hx hb dL_law_414 ?_
  refine va_sld (pc := 415) hx hb hX hbl0 hbA hS h_1 dL_law_415 ?_
  have hP := hP.perm (rot _ _ _)
  have hD := hD.perm (rot _ _ _)
  refine rwA (pc := 416) (rest := [.int r]) E (c_X9_heads l D cI cJ cZ cS N mo_A mo_looks_A mo_period_A mo_shut_A mo_phase_A mo_quarters_A mo_tall_A mo_pairs_A mo_pad_A mo_cuts_A mo_at_A mo_first_A mo_kept_A mo_isKept_A mo_people mo_shots mo_looks mo_bride mo_hands mo_period mo_shut mo_phase mo_flash mo_quarters mo_tired mo_rows mo_columns mo_rise mo_tall mo_pairs mo_pad mo_padMany mo_cuts mo_at mo_first mo_kept mo_isKept mo_keptAt mo_isWriting (xs (nI i + 1).toNatClampNeg) H.size r r_mo_cuts f2) F_X9_heads rfl rfl tw_876 tw_877 tw_878 hP hD hS hA ⟨by decide, by decide⟩ rfl hl.1 (Nat.le_of_ble_eq_true rfl) hcs rfl dL_law_416 (fun H locs hP hD hS => ?_)
  have hP := hP.perm (rot _ _ _)
  have hD := hD.perm (rot _ _ _)
  refine lv_icmp_eq (pc := 419) (tgt := 970) hx hb dL_law_419 (by decide) (fun _ => ?_) (fun hne => absurd rfl hne)
  refine W.widen (k := cells + 11) (n := slots + 214) (by omega) (by omega) ?_
  exact kk _ H locs (ST_mk cI cJ cZ cS oe_A mo_A oe_kept_A oe_standing_A pa_A pa_signs_A sc_A sh_A sh_looks_A sh_openBits_A bl_A bl_settings_A od_A od_quarters_A st_A st_talls_A st_pairs_A hw_A hw_cutsFrom_A hw_chosen_A pw_A pw_leaves_A pw_first_A mo_looks_A mo_period_A mo_shut_A mo_phase_A mo_quarters_A mo_tall_A mo_pairs_A mo_pad_A mo_cuts_A mo_at_A mo_first_A mo_kept_A mo_isKept_A oe_kept oe_standing pa_signs pa_count sc_people sc_bride sh_count sh_hands sh_looks sh_openBits bl_flash bl_settings od_tired od_quarters st_rows st_columns st_rise st_talls st_pairs st_changed r_hw_cutsFrom r_hw_chosen pw_leaves pw_first pw_people pw_count mo_people mo_shots mo_looks mo_bride mo_hands mo_period mo_shut mo_phase mo_flash mo_quarters mo_tired mo_rows mo_columns mo_rise mo_tall mo_pairs mo_pad mo_padMany r_mo_cuts mo_at mo_first mo_kept mo_isKept mo_keptAt mo_isWriting X0 X1 n c R C hpad hsh hbl hod hst hpw hk0 hk1) hP hD hS
set_option maxRecDepth 100000 in
theorem lo_left {p : Program} {l : Launch} {e : Env} {s : State} {m : MethodId} {args : Array Value} {below : List Frame} {meth : Method} {c : Code} {D : va_G} {cI cJ cZ cS : ClassId} (E : Ev p s m args c cL_law 4 RL D cI cJ cZ cS) {b L : Nat} {xs : Nat → Int32} (hX : va_X b L xs s s.heap) (hbl0 : b < s.heap.size) {i : Nat} (hi : i + 3 < L) (hL : L ≤ 2048) {oe_A mo_A : Nat} {ls : Array Slot} (hl : lv_has ls 4 [(0, .ref b), (1, .ref oe_A), (2, .ref mo_A), (3, .int (nI i))]) {ws : va_W} (hs : ST cI cJ cZ cS oe_A mo_A ws) {H : Heap} {locs : List Loc} (hP : va_P D vwCl ws H) (hD : va_D (fun q : Nat => s.heap.size ≤ q) ws) (hS : va_S (fun q : Nat => s.heap.size ≤ q) s.heap H locs) {cells slots : Nat} (hc : cells + 11 ≤ 600000 ∧ slots + 214 ≤ 7302250) {Q : State → Prop} (kk : ∀ (ws' : va_W) (H' : Heap) (locs' : List Loc), ST cI cJ cZ cS oe_A mo_A ws' → va_P D vwCl ws' H' → va_D (fun q : Nat => s.heap.size ≤ q) ws' → va_S (fun q : Nat => s.heap.size ≤ q) s.heap H' locs' → W p l e room_1 s m args below meth c H' locs' (cells + 11) (slots + 214) Q (F0 m 970 ls [])) : W p l e room_1 s m args below meth c H locs cells slots Q (F0 m 424 ls []) := by
  obtain ⟨hx, hb, hml, hown, hts, hG⟩ := id E
  have hA : ∀ q : Nat, s.heap.size ≤ q → (fun q : Nat => s.heap.size ≤ q) q := fun _ h => h
  have hbA : ¬ (fun q : Nat => s.heap.size ≤ q) b := Nat.not_le.mpr hbl0
  have hcs : cells ≤ room_1.cells ∧ slots ≤ room_1.slots := ⟨by show cells ≤ 600000; omega, by show slots ≤ 7302250; omega⟩
  have h_1 : vp_in (nI i + 1) L := by rw [nI_1]; exact vp_in_nI (by omega) (by omega)
  have h_2 : vp_in (nI i + 2) L := by rw [l_2, nI_add]; exact vp_in_nI (by omega) (by omega)
  have h_3 : vp_in (nI i + 3) L := by rw [l_3, nI_add]; exact vp_in_nI (by omega) (by omega)
  revert hP hD
  refine ST_el hs (G := fun ws => va_P D vwCl ws H → va_D (fun q : Nat => s.heap.size ≤ q) ws → W p l e room_1 s m args below meth c H locs cells slots Q (F0 m 424 ls [])) ?_
  intro oe_kept_A oe_standing_A pa_A pa_signs_A sc_A sh_A sh_looks_A sh_openBits_A bl_A bl_settings_A od_A od_quarters_A st_A st_talls_A st_pairs_A hw_A hw_cutsFrom_A hw_chosen_A pw_A pw_leaves_A pw_first_A mo_looks_A mo_period_A mo_shut_A mo_phase_A mo_quarters_A mo_tall_A mo_pairs_A mo_pad_A mo_cuts_A mo_at_A mo_first_A mo_kept_A mo_isKept_A oe_kept oe_standing pa_signs pa_count sc_people sc_bride sh_count sh_hands sh_looks sh_openBits bl_flash bl_settings od_tired od_quarters st_rows st_columns st_rise st_talls st_pairs st_changed hw_cutsFrom hw_chosen pw_leaves pw_first pw_people pw_count mo_people mo_shots mo_looks mo_bride mo_hands mo_period mo_shut mo_phase mo_flash mo_quarters mo_tired mo_rows mo_columns mo_rise mo_tall mo_pairs mo_pad mo_padMany mo_cuts mo_at mo_first mo_kept mo_isKept mo_keptAt mo_isWriting X0 X1 n c R C hpad hsh hbl hod hst hpw hk0 hk1 hP hD
  obtain ⟨N, r, f1, f2⟩ := pu_left hsh
  refine lv_aload_n (pc := 424) hx hb dL_law_424 rfl (lv_at hl 1 rfl) ?_
  refine ro_Vi (pc := 425) (rest := []) E (c_X8_left l D cI cJ cZ cS N oe_A oe_kept_A oe_standing_A pa_A pa_signs_A sc_A sh_A sh_looks_A sh_openBits_A bl_A bl_settings_A od_A od_quarters_A st_A st_talls_A st_pairs_A hw_A hw_cutsFrom_A hw_chosen_A pw_A pw_leaves_A pw_first_A oe_kept oe_standing pa_signs pa_count sc_people sc_bride sh_count sh_hands sh_looks sh_openBits bl_flash bl_settings od_tired od_quarters st_rows st_columns st_rise st_talls st_pairs st_changed hw_cutsFrom hw_chosen pw_leaves pw_first pw_people pw_count r f1) F_X8_left rfl rfl tw_420 tw_421 tw_422 hP.left ⟨by decide, by decide⟩ rfl hl.1 (Nat.le_of_ble_eq_true rfl) hcs rfl dL_law_425 ?_
  refine lv_aload_n (pc := 428) hx hb dL_law_428 rfl (lv_at hl 2 rfl) ?_
  refine ro_Vi (pc := 429) (rest := [.int r]) E (c_X9_left l D cI cJ cZ cS N mo_A mo_looks_A mo_period_A mo_shut_A mo_phase_A mo_quarters_A mo_tall_A mo_pairs_A mo_pad_A mo_cuts_A mo_at_A mo_first_A mo_kept_A mo_isKept_A mo_people mo_shots mo_looks mo_bride mo_hands mo_period mo_shut mo_phase mo_flash mo_quarters mo_tired mo_rows mo_columns mo_rise mo_tall mo_pairs mo_pad mo_padMany mo_cuts mo_at mo_first mo_kept mo_isKept mo_keptAt mo_isWriting r f2) F_X9_left rfl rfl tw_896 tw_897 tw_898 hP.right.left ⟨by decide, by decide⟩ rfl hl.1 (Nat.le_of_ble_eq_true rfl) hcs rfl dL_law_429 ?_
  refine lv_icmp_eq (pc := 432) (tgt := 970) hx hb dL_law_432 (by decide) (fun _ => ?_) (fun hne => absurd rfl hne)
  refine W.widen (k := cells + 11) (n := slots + 214) (by omega) (by omega) ?_
  exact kk _ H locs (ST_mk cI cJ cZ cS oe_A mo_A oe_kept_A oe_standing_A pa_A pa_signs_A sc_A sh_A sh_looks_A sh_openBits_A bl_A bl_settings_A od_A od_quarters_A st_A st_talls_A st_pairs_A hw_A hw_cutsFrom_A hw_chosen_A pw_A pw_leaves_A pw_first_A mo_looks_A mo_period_A mo_shut_A mo_phase_A mo_quarters_A mo_tall_A mo_pairs_A mo_pad_A mo_cuts_A mo_at_A mo_first_A mo_kept_A mo_isKept_A oe_kept oe_standing pa_signs pa_count sc_people sc_bride sh_count sh_hands sh_looks sh_openBits bl_flash bl_settings od_tired od_quarters st_rows st_columns st_rise st_talls st_pairs st_changed hw_cutsFrom hw_chosen pw_leaves pw_first pw_people pw_count mo_people mo_shots mo_looks mo_bride mo_hands mo_period mo_shut mo_phase mo_flash mo_quarters mo_tired mo_rows mo_columns mo_rise mo_tall mo_pairs mo_pad mo_padMany mo_cuts mo_at mo_first mo_kept mo_isKept mo_keptAt mo_isWriting X0 X1 n c R C hpad hsh hbl hod hst hpw hk0 hk1) hP hD hS
set_option maxRecDepth 100000 in
theorem lo_blink {p : Program} {l : Launch} {e : Env} {s : State} {m : MethodId} {args : Array Value} {below : List Frame} {meth : Method} {c : Code} {D : va_G} {cI cJ cZ cS : ClassId} (E : Ev p s m args c cL_law 4 RL D cI cJ cZ cS) {b L : Nat} {xs : Nat → Int32} (hX : va_X b L xs s s.heap) (hbl0 : b < s.heap.size) {i : Nat} (hi : i + 3 < L) (hL : L ≤ 2048) {oe_A mo_A : Nat} {ls : Array Slot} (hl : lv_has ls 4 [(0, .ref b), (1, .ref oe_A), (2, .ref mo_A), (3, .int (nI i))]) {ws : va_W} (hs : ST cI cJ cZ cS oe_A mo_A ws) {H : Heap} {locs : List Loc} (hP : va_P D vwCl ws H) (hD : va_D (fun q : Nat => s.heap.size ≤ q) ws) (hS : va_S (fun q : Nat => s.heap.size ≤ q) s.heap H locs) {cells slots : Nat} (hc : cells + 11 ≤ 600000 ∧ slots + 214 ≤ 7302250) {Q : State → Prop} (kk : ∀ (ws' : va_W) (H' : Heap) (locs' : List Loc), ST cI cJ cZ cS oe_A mo_A ws' → va_P D vwCl ws' H' → va_D (fun q : Nat => s.heap.size ≤ q) ws' → va_S (fun q : Nat => s.heap.size ≤ q) s.heap H' locs' → W p l e room_1 s m args below meth c H' locs' (cells + 11) (slots + 214) Q (F0 m 970 ls [])) : W p l e room_1 s m args below meth c H locs cells slots Q (F0 m 437 ls []) := by
  obtain ⟨hx, hb, hml, hown, hts, hG⟩ := id E
  have hA : ∀ q : Nat, s.heap.size ≤ q → (fun q : Nat => s.heap.size ≤ q) q := fun _ h => h
  have hbA : ¬ (fun q : Nat => s.heap.size ≤ q) b := Nat.not_le.mpr hbl0
  have hcs : cells ≤ room_1.cells ∧ slots ≤ room_1.slots := ⟨by show cells ≤ 600000; omega, by show slots ≤ 7302250; omega⟩
  have h_1 : vp_in (nI i + 1) L := by rw [nI_1]; exact vp_in_nI (by omega) (by omega)
  have h_2 : vp_in (nI i + 2) L := by rw [l_2, nI_add]; exact vp_in_nI (by omega) (by omega)
  have h_3 : vp_in (nI i + 3) L := by rw [l_3, nI_add]; exact vp_in_nI (by omega) (by omega)
  revert hP hD
  refine ST_el hs (G := fun ws => va_P D vwCl ws H → va_D (fun q : Nat => s.heap.size ≤ q) ws → W p l e room_1 s m args below meth c H locs cells slots Q (F0 m 437 ls [])) ?_
  intro oe_kept_A oe_standing_A pa_A pa_signs_A sc_A sh_A sh_looks_A sh_openBits_A bl_A bl_settings_A od_A od_quarters_A st_A st_talls_A st_pairs_A hw_A hw_cutsFrom_A hw_chosen_A pw_A pw_leaves_A pw_first_A mo_looks_A mo_period_A mo_shut_A mo_phase_A mo_quarters_A mo_tall_A mo_pairs_A mo_pad_A mo_cuts_A mo_at_A mo_first_A mo_kept_A mo_isKept_A oe_kept oe_standing pa_signs pa_count sc_people sc_bride sh_count sh_hands sh_looks sh_openBits bl_flash bl_settings od_tired od_quarters st_rows st_columns st_rise st_talls st_pairs st_changed hw_cutsFrom hw_chosen pw_leaves pw_first pw_people pw_count mo_people mo_shots mo_looks mo_bride mo_hands mo_period mo_shut mo_phase mo_flash mo_quarters mo_tired mo_rows mo_columns mo_rise mo_tall mo_pairs mo_pad mo_padMany mo_cuts mo_at mo_first mo_kept mo_isKept mo_keptAt mo_isWriting X0 X1 n c R C hpad hsh hbl hod hst hpw hk0 hk1 hP hD
  obtain ⟨r, r_bl_settings, r_mo_period, r_mo_shut, r_mo_phase, f1, f2, hbl⟩ := pu_blink hsh hbl (xs (nI i + 1).toNatClampNeg) (xs (nI i + 2).toNatClampNeg) (xs (nI i + 3).toNatClampNeg)
  refine lv_aload_n (pc := 437) hx hb dL_law_437 rfl (lv_at hl 1 rfl) ?_
  refine lv_aload_n (pc := 438) hx hb dL_law_438 rfl (lv_at hl 0 rfl) ?_
  refine lv_iload_n (pc := 439) hx hb dL_law_439 rfl (lv_at hl 3 rfl) ?_
  refine lv_iconst (pc := 440) (v := (1 : Int32)) hx hb dL_law_440 (by decide) ?_
  refine lv_iadd (pc := 441) hx hb dL_law_441 ?_
  refine va_sld (pc := 442) hx hb hX hbl0 hbA hS h_1 dL_law_442 ?_
  refine lv_aload_n (pc := 443) hx hb dL_law_443 rfl (lv_at hl 0 rfl) ?_
  refine lv_iload_n (pc := 444) hx hb dL_law_444 rfl (lv_at hl 3 rfl) ?_
  refine lv_iconst (pc := 445) (v := (2 : Int32)) hx hb dL_law_445 (by decide) ?_
  refine lv_iadd (pc := 446) hx hb dL_law_446 ?_
  refine va_sld (pc := 447) hx hb hX hbl0 hbA hS h_2 dL_law_447 ?_
  refine lv_aload_n (pc := 448) hx hb dL_law_448 rfl (lv_at hl 0 rfl) ?_
  refine lv_iload_n (pc := 449) hx hb dL_law_449 rfl (lv_at hl 3 rfl) ?_
  refine lv_iconst (pc := 450) (v := (3 : Int32)) hx hb dL_law_450 (by decide) ?_
  refine lv_iadd (pc := 451) hx hb dL_law_451 ?_
  refine va_sld (pc := 452) hx hb hX hbl0 hbA hS h_3 dL_law_452 ?_
  refine rwA (pc := 453) (rest := []) E (c_X8_blink l D cI cJ cZ cS oe_A oe_kept_A oe_standing_A pa_A pa_signs_A sc_A sh_A sh_looks_A sh_openBits_A bl_A bl_settings_A od_A od_quarters_A st_A st_talls_A st_pairs_A hw_A hw_cutsFrom_A hw_chosen_A pw_A pw_leaves_A pw_first_A oe_kept oe_standing pa_signs pa_count sc_people sc_bride sh_count sh_hands sh_looks sh_openBits bl_flash bl_settings od_tired od_quarters st_rows st_columns st_rise st_talls st_pairs st_changed hw_cutsFrom hw_chosen pw_leaves pw_first pw_people pw_count (xs (nI i + 1).toNatClampNeg) (xs (nI i + 2).toNatClampNeg) (xs (nI i + 3).toNatClampNeg) H.size r r_bl_settings f1) F_X8_blink rfl rfl tw_434 tw_435 tw_436 hP hD hS hA ⟨by decide, by decide⟩ rfl hl.1 (Nat.le_of_ble_eq_true rfl) hcs rfl dL_law_453 (fun H locs hP hD hS => ?_)
  refine lv_aload_n (pc := 456) hx hb dL_law_456 rfl (lv_at hl 2 rfl) ?_
  refine lv_aload_n (pc := 457) hx hb dL_law_457 rfl (lv_at hl 0 rfl) ?_
  refine lv_iload_n (pc := 458) hx hb dL_law_458 rfl (lv_at hl 3 rfl) ?_
  refine lv_iconst (pc := 459) (v := (1 : Int32)) hx hb dL_law_459 (by decide) ?_
  refine lv_iadd (pc := 460) hx hb dL_law_460 ?_
  refine va_sld (pc := 461) hx hb hX hbl0 hbA hS h_1 dL_law_461 ?_
  refine lv_aload_n (pc := 462) hx hb dL_law_462 rfl (lv_at hl 0 rfl) ?_
  refine lv_iload_n (pc := 463) hx hb dL_law_463 rfl (lv_at hl 3 rfl) ?_
  refine lv_iconst (pc := 464) (v := (2 : Int32)) hx hb dL_law_464 (by decide) ?_
  refine lv_iadd (pc := 465) hx hb dL_law_465 ?_
  refine va_sld (pc := 466) hx hb hX hbl0 hbA hS h_2 dL_law_466 ?_
  refine lv_aload_n (pc := 467) hx hb dL_law_467 rfl (lv_at hl 0 rfl) ?_
  refine lv_iload_n (pc := 468) hx hb dL_law_468 rfl (lv_at hl 3 rfl) ?_
  refine lv_iconst (pc := 469) (v := (3 : Int32)) hx hb dL_law_469 (by decide) ?_
  refine lv_iadd (pc := 470) hx hb dL_law_470 ?_
  refine va_sld (pc := 471) hx hb hX hbl0 hbA hS h_3 dL_law_471 ?_
  have hP := hP.perm (rot _ _ _)
  have hD := hD.perm (rot _ _ _)
  refine rwA (pc := 472) (rest := [.int r]) E (c_X9_blink l D cI cJ cZ cS mo_A mo_looks_A mo_period_A mo_shut_A mo_phase_A mo_quarters_A mo_tall_A mo_pairs_A mo_pad_A mo_cuts_A mo_at_A mo_first_A mo_kept_A mo_isKept_A mo_people mo_shots mo_looks mo_bride mo_hands mo_period mo_shut mo_phase mo_flash mo_quarters mo_tired mo_rows mo_columns mo_rise mo_tall mo_pairs mo_pad mo_padMany mo_cuts mo_at mo_first mo_kept mo_isKept mo_keptAt mo_isWriting (xs (nI i + 1).toNatClampNeg) (xs (nI i + 2).toNatClampNeg) (xs (nI i + 3).toNatClampNeg) H.size r r_mo_period r_mo_shut r_mo_phase f2) F_X9_blink rfl rfl tw_904 tw_905 tw_906 hP hD hS hA ⟨by decide, by decide⟩ rfl hl.1 (Nat.le_of_ble_eq_true rfl) hcs rfl dL_law_472 (fun H locs hP hD hS => ?_)
  have hP := hP.perm (rot _ _ _)
  have hD := hD.perm (rot _ _ _)
  refine lv_icmp_eq (pc := 475) (tgt := 970) hx hb dL_law_475 (by decide) (fun _ => ?_) (fun hne => absurd rfl hne)
  refine W.widen (k := cells + 11) (n := slots + 214) (by omega) (by omega) ?_
  exact kk _ H locs (ST_mk cI cJ cZ cS oe_A mo_A oe_kept_A oe_standing_A pa_A pa_signs_A sc_A sh_A sh_looks_A sh_openBits_A bl_A bl_settings_A od_A od_quarters_A st_A st_talls_A st_pairs_A hw_A hw_cutsFrom_A hw_chosen_A pw_A pw_leaves_A pw_first_A mo_looks_A mo_period_A mo_shut_A mo_phase_A mo_quarters_A mo_tall_A mo_pairs_A mo_pad_A mo_cuts_A mo_at_A mo_first_A mo_kept_A mo_isKept_A oe_kept oe_standing pa_signs pa_count sc_people sc_bride sh_count sh_hands sh_looks sh_openBits bl_flash r_bl_settings od_tired od_quarters st_rows st_columns st_rise st_talls st_pairs st_changed hw_cutsFrom hw_chosen pw_leaves pw_first pw_people pw_count mo_people mo_shots mo_looks mo_bride mo_hands r_mo_period r_mo_shut r_mo_phase mo_flash mo_quarters mo_tired mo_rows mo_columns mo_rise mo_tall mo_pairs mo_pad mo_padMany mo_cuts mo_at mo_first mo_kept mo_isKept mo_keptAt mo_isWriting X0 X1 n c R C hpad hsh hbl hod hst hpw hk0 hk1) hP hD hS
