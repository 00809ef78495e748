set_option maxRecDepth 100000 in
theorem lo_flash {p : Program} {l : Launch} {e : Env} {s : State} {m : MethodId} {args : Array Value} {below : List Frame} {meth : Method} {c : Code} {D : va_G} {cI cJ cZ cS : ClassId} (E : Ev p s m args c cL_law 4 RL D cI cJ cZ cS) {b L : Nat} {xs : Nat → Int32} (hX : va_X b L xs s s.heap) (hbl0 : b < s.heap.size) {i : Nat} (hi : i + 3 < L) (hL : L ≤ 2048) {oe_A mo_A : Nat} {ls : Array Slot} (hl : lv_has ls 4 [(0, .ref b), (1, .ref oe_A), (2, .ref mo_A), (3, .int (nI i))]) {ws : va_W} (hs : ST cI cJ cZ cS oe_A mo_A ws) {H : Heap} {locs : List Loc} (hP : va_P D vwCl ws H) (hD : va_D (fun q : Nat => s.heap.size ≤ q) ws) (hS : va_S (fun q : Nat => s.heap.size ≤ q) s.heap H locs) {cells slots : Nat} (hc : cells + 11 ≤ 600000 ∧ slots + 214 ≤ 7302250) {Q : State → Prop} (kk : ∀ (ws' : va_W) (H' : Heap) (locs' : List Loc), ST cI cJ cZ cS oe_A mo_A ws' → va_P D vwCl ws' H' → va_D (fun q : Nat => s.heap.size ≤ q) ws' → va_S (fun q : Nat => s.heap.size ≤ q) s.heap H' locs' → W p l e room_1 s m args below meth c H' locs' (cells + 11) (slots + 214) Q (F0 m 970 ls [])) : W p l e room_1 s m args below meth c H locs cells slots Q (F0 m 480 ls []) := by
  obtain ⟨hx, hb, hml, hown, hts, hG⟩ := id E
  have hA : ∀ q : Nat, s.heap.size ≤ q → (fun q : Nat => s.heap.size ≤ q) q := fun _ h => h
  have hbA : ¬ (fun q : Nat => s.heap.size ≤ q) b := Nat.not_le.mpr hbl0
  have hcs : cells ≤ room_1.cells ∧ slots ≤ room_1.slots := ⟨by show cells ≤ 600000; omega, by show slots ≤ 7302250; omega⟩
  have h_1 : vp_in (nI i + 1) L := by rw [nI_1]; exact vp_in_nI (by omega) (by omega)
  have h_2 : vp_in (nI i + 2) L := by rw [l_2, nI_add]; exact vp_in_nI (by omega) (by omega)
  have h_3 : vp_in (nI i + 3) L := by rw [l_3, nI_add]; exact vp_in_nI (by omega) (by omega)
  revert hP hD
  refine ST_el hs (G := fun ws => va_P D vwCl ws H → va_D (fun q : Nat => s.heap.size ≤ q) ws → W p l e room_1 s m args below meth c H locs cells slots Q (F0 m 480 ls [])) ?_
  intro oe_kept_A oe_standing_A pa_A pa_signs_A sc_A sh_A sh_looks_A sh_openBits_A bl_A bl_settings_A od_A od_quarters_A st_A st_talls_A st_pairs_A hw_A hw_cutsFrom_A hw_chosen_A pw_A pw_leaves_A pw_first_A mo_looks_A mo_period_A mo_shut_A mo_phase_A mo_quarters_A mo_tall_A mo_pairs_A mo_pad_A mo_cuts_A mo_at_A mo_first_A mo_kept_A mo_isKept_A oe_kept oe_standing pa_signs pa_count sc_people sc_bride sh_count sh_hands sh_looks sh_openBits bl_flash bl_settings od_tired od_quarters st_rows st_columns st_rise st_talls st_pairs st_changed hw_cutsFrom hw_chosen pw_leaves pw_first pw_people pw_count mo_people mo_shots mo_looks mo_bride mo_hands mo_period mo_shut mo_phase mo_flash mo_quarters mo_tired mo_rows mo_columns mo_rise mo_tall mo_pairs mo_pad mo_padMany mo_cuts mo_at mo_first mo_kept mo_isKept mo_keptAt mo_isWriting X0 X1 n c R C hpad hsh hbl hod hst hpw hk0 hk1 hP hD
  obtain ⟨r, r_bl_flash, r_mo_flash, f1, f2, hbl⟩ := pu_flash hbl (xs (nI i + 1).toNatClampNeg)
  refine lv_aload_n (pc := 480) hx hb dL_law_480 rfl (lv_at hl 1 rfl) ?_
  refine lv_aload_n (pc := 481) hx hb dL_law_481 rfl (lv_at hl 0 rfl) ?_
  refine lv_iload_n (pc := 482) hx hb dL_law_482 rfl (lv_at hl 3 rfl) ?_
  refine lv_iconst (pc := 483) (v := (1 : Int32)) hx hb dL_law_483 (by decide) ?_
  refine lv_iadd (pc := 484) hx hb dL_law_484 ?_
  refine va_sld (pc := 485) hx hb hX hbl0 hbA hS h_1 dL_law_485 ?_
  refine rwA (pc := 486) (rest := []) E (c_X8_flash l D cI cJ cZ cS oe_A oe_kept_A oe_standing_A pa_A pa_signs_A sc_A sh_A sh_looks_A sh_openBits_A bl_A bl_settings_A od_A od_quarters_A st_A st_talls_A st_pairs_A hw_A hw_cutsFrom_A hw_chosen_A pw_A pw_leaves_A pw_first_A oe_kept oe_standing pa_signs pa_count sc_people sc_bride sh_count sh_hands sh_looks sh_openBits bl_flash bl_settings od_tired od_quarters st_rows st_columns st_rise st_talls st_pairs st_changed hw_cutsFrom hw_chosen pw_leaves pw_first pw_people pw_count (xs (nI i + 1).toNatClampNeg) H.size r r_bl_flash f1) F_X8_flash rfl rfl tw_454 tw_455 tw_456 hP hD hS hA ⟨by decide, by decide⟩ rfl hl.1 (Nat.le_of_ble_eq_true rfl) hcs rfl dL_law_486 (fun H locs hP hD hS => ?_)
  refine lv_aload_n (pc := 489) hx hb dL_law_489 rfl (lv_at hl 2 rfl) ?_
  refine lv_aload_n (pc := 490) hx hb dL_law_490 rfl (lv_at hl 0 rfl) ?_
  refine lv_iload_n (pc := 491) hx hb dL_law_491 rfl (lv_at hl 3 rfl) ?_
  refine lv_iconst (pc := 492) (v := (1 : Int32)) hx hb dL_law_492 (by decide) ?_
  refine lv_iadd (pc := 493) hx hb dL_law_493 ?_
  refine va_sld (pc := 494) hx hb hX hbl0 hbA hS h_1 dL_law_494 ?_
  have hP := hP.perm (rot _ _ _)
  have hD := hD.perm (rot _ _ _)
  refine rwA (pc := 495) (rest := [.int r]) E (c_X9_flash l D cI cJ cZ cS mo_A mo_looks_A mo_period_A mo_shut_A mo_phase_A mo_quarters_A mo_tall_A mo_pairs_A mo_pad_A mo_cuts_A mo_at_A mo_first_A mo_kept_A mo_isKept_A mo_people mo_shots mo_looks mo_bride mo_hands mo_period mo_shut mo_phase mo_flash mo_quarters mo_tired mo_rows mo_columns mo_rise mo_tall mo_pairs mo_pad mo_padMany mo_cuts mo_at mo_first mo_kept mo_isKept mo_keptAt mo_isWriting (xs (nI i + 1).toNatClampNeg) H.size r r_mo_flash f2) F_X9_flash rfl rfl tw_910 tw_911 tw_912 hP hD hS hA ⟨by decide, by decide⟩ rfl hl.1 (Nat.le_of_ble_eq_true rfl) hcs rfl dL_law_495 (fun H locs hP hD hS => ?_)
  have hP := hP.perm (rot _ _ _)
  have hD := hD.perm (rot _ _ _)
  refine lv_icmp_eq (pc := 498) (tgt := 970) hx hb dL_law_498 (by decide) (fun _ => ?_) (fun hne => absurd rfl hne)
  refine W.widen (k := cells + 11) (n := slots + 214) (by omega) (by omega) ?_
  exact kk _ H locs (ST_mk cI cJ cZ cS oe_A mo_A oe_kept_A oe_standing_A pa_A pa_signs_A sc_A sh_A sh_looks_A sh_openBits_A bl_A bl_settings_A od_A od_quarters_A st_A st_talls_A st_pairs_A hw_A hw_cutsFrom_A hw_chosen_A pw_A pw_leaves_A pw_first_A mo_looks_A mo_period_A mo_shut_A mo_phase_A mo_quarters_A mo_tall_A mo_pairs_A mo_pad_A mo_cuts_A mo_at_A mo_first_A mo_kept_A mo_isKept_A oe_kept oe_standing pa_signs pa_count sc_people sc_bride sh_count sh_hands sh_looks sh_openBits r_bl_flash bl_settings od_tired od_quarters st_rows st_columns st_rise st_talls st_pairs st_changed hw_cutsFrom hw_chosen pw_leaves pw_first pw_people pw_count mo_people mo_shots mo_looks mo_bride mo_hands mo_period mo_shut mo_phase r_mo_flash mo_quarters mo_tired mo_rows mo_columns mo_rise mo_tall mo_pairs mo_pad mo_padMany mo_cuts mo_at mo_first mo_kept mo_isKept mo_keptAt mo_isWriting X0 X1 n c R C hpad hsh hbl hod hst hpw hk0 hk1) hP hD hS
set_option maxRecDepth 100000 in
theorem lo_open {p : Program} {l : Launch} {e : Env} {s : State} {m : MethodId} {args : Array Value} {below : List Frame} {meth : Method} {c : Code} {D : va_G} {cI cJ cZ cS : ClassId} (E : Ev p s m args c cL_law 4 RL D cI cJ cZ cS) {b L : Nat} {xs : Nat → Int32} (hX : va_X b L xs s s.heap) (hbl0 : b < s.heap.size) {i : Nat} (hi : i + 3 < L) (hL : L ≤ 2048) {oe_A mo_A : Nat} {ls : Array Slot} (hl : lv_has ls 4 [(0, .ref b), (1, .ref oe_A), (2, .ref mo_A), (3, .int (nI i))]) {ws : va_W} (hs : ST cI cJ cZ cS oe_A mo_A ws) {H : Heap} {locs : List Loc} (hP : va_P D vwCl ws H) (hD : va_D (fun q : Nat => s.heap.size ≤ q) ws) (hS : va_S (fun q : Nat => s.heap.size ≤ q) s.heap H locs) {cells slots : Nat} (hc : cells + 11 ≤ 600000 ∧ slots + 214 ≤ 7302250) {Q : State → Prop} (kk : ∀ (ws' : va_W) (H' : Heap) (locs' : List Loc), ST cI cJ cZ cS oe_A mo_A ws' → va_P D vwCl ws' H' → va_D (fun q : Nat => s.heap.size ≤ q) ws' → va_S (fun q : Nat => s.heap.size ≤ q) s.heap H' locs' → W p l e room_1 s m args below meth c H' locs' (cells + 11) (slots + 214) Q (F0 m 970 ls [])) : W p l e room_1 s m args below meth c H locs cells slots Q (F0 m 503 ls []) := by
  obtain ⟨hx, hb, hml, hown, hts, hG⟩ := id E
  have hA : ∀ q : Nat, s.heap.size ≤ q → (fun q : Nat => s.heap.size ≤ q) q := fun _ h => h
  have hbA : ¬ (fun q : Nat => s.heap.size ≤ q) b := Nat.not_le.mpr hbl0
  have hcs : cells ≤ room_1.cells ∧ slots ≤ room_1.slots := ⟨by show cells ≤ 600000; omega, by show slots ≤ 7302250; omega⟩
  have h_1 : vp_in (nI i + 1) L := by rw [nI_1]; exact vp_in_nI (by omega) (by omega)
  have h_2 : vp_in (nI i + 2) L := by rw [l_2, nI_add]; exact vp_in_nI (by omega) (by omega)
  have h_3 : vp_in (nI i + 3) L := by rw [l_3, nI_add]; exact vp_in_nI (by omega) (by omega)
  revert hP hD
  refine ST_el hs (G := fun ws => va_P D vwCl ws H → va_D (fun q : Nat => s.heap.size ≤ q) ws → W p l e room_1 s m args below meth c H locs cells slots Q (F0 m 503 ls [])) ?_
  intro oe_kept_A oe_standing_A pa_A pa_signs_A sc_A sh_A sh_looks_A sh_openBits_A bl_A bl_settings_A od_A od_quarters_A st_A st_talls_A st_pairs_A hw_A hw_cutsFrom_A hw_chosen_A pw_A pw_leaves_A pw_first_A mo_looks_A mo_period_A mo_shut_A mo_phase_A mo_quarters_A mo_tall_A mo_pairs_A mo_pad_A mo_cuts_A mo_at_A mo_first_A mo_kept_A mo_isKept_A oe_kept oe_standing pa_signs pa_count sc_people sc_bride sh_count sh_hands sh_looks sh_openBits bl_flash bl_settings od_tired od_quarters st_rows st_columns st_rise st_talls st_pairs st_changed hw_cutsFrom hw_chosen pw_leaves pw_first pw_people pw_count mo_people mo_shots mo_looks mo_bride mo_hands mo_period mo_shut mo_phase mo_flash mo_quarters mo_tired mo_rows mo_columns mo_rise mo_tall mo_pairs mo_pad mo_padMany mo_cuts mo_at mo_first mo_kept mo_isKept mo_keptAt mo_isWriting X0 X1 n c R C hpad hsh hbl hod hst hpw hk0 hk1 hP hD
  obtain ⟨N, r, f1, f2⟩ := pu_open hsh hbl (xs (nI i + 1).toNatClampNeg)
  refine lv_aload_n (pc := 503) hx hb dL_law_503 rfl (lv_at hl 1 rfl) ?_
  refine lv_aload_n (pc := 504) hx hb dL_law_504 rfl (lv_at hl 0 rfl) ?_
  refine lv_iload_n (pc := 505) hx hb dL_law_505 rfl (lv_at hl 3 rfl) ?_
  refine lv_iconst (pc := 506) (v := (1 : Int32)) hx hb dL_law_506 (by decide) ?_
  refine lv_iadd (pc := 507) hx hb dL_law_507 ?_
  refine va_sld (pc := 508) hx hb hX hbl0 hbA hS h_1 dL_law_508 ?_
  refine ro_Vi (pc := 509) (rest := []) E (c_X8_open l D cI cJ cZ cS N oe_A oe_kept_A oe_standing_A pa_A pa_signs_A sc_A sh_A sh_looks_A sh_openBits_A bl_A bl_settings_A od_A od_quarters_A st_A st_talls_A st_pairs_A hw_A hw_cutsFrom_A hw_chosen_A pw_A pw_leaves_A pw_first_A oe_kept oe_standing pa_signs pa_count sc_people sc_bride sh_count sh_hands sh_looks sh_openBits bl_flash bl_settings od_tired od_quarters st_rows st_columns st_rise st_talls st_pairs st_changed hw_cutsFrom hw_chosen pw_leaves pw_first pw_people pw_count (xs (nI i + 1).toNatClampNeg) r f1) F_X8_open rfl rfl tw_458 tw_459 tw_460 hP.left ⟨by decide, by decide⟩ rfl hl.1 (Nat.le_of_ble_eq_true rfl) hcs rfl dL_law_509 ?_
  refine lv_aload_n (pc := 512) hx hb dL_law_512 rfl (lv_at hl 2 rfl) ?_
  refine lv_aload_n (pc := 513) hx hb dL_law_513 rfl (lv_at hl 0 rfl) ?_
  refine lv_iload_n (pc := 514) hx hb dL_law_514 rfl (lv_at hl 3 rfl) ?_
  refine lv_iconst (pc := 515) (v := (1 : Int32)) hx hb dL_law_515 (by decide) ?_
  refine lv_iadd (pc := 516) hx hb dL_law_516 ?_
  refine va_sld (pc := 517) hx hb hX hbl0 hbA hS h_1 dL_law_517 ?_
  refine ro_Vi (pc := 518) (rest := [.int r]) E (c_X9_open l D cI cJ cZ cS N mo_A mo_looks_A mo_period_A mo_shut_A mo_phase_A mo_quarters_A mo_tall_A mo_pairs_A mo_pad_A mo_cuts_A mo_at_A mo_first_A mo_kept_A mo_isKept_A mo_people mo_shots mo_looks mo_bride mo_hands mo_period mo_shut mo_phase mo_flash mo_quarters mo_tired mo_rows mo_columns mo_rise mo_tall mo_pairs mo_pad mo_padMany mo_cuts mo_at mo_first mo_kept mo_isKept mo_keptAt mo_isWriting (xs (nI i + 1).toNatClampNeg) r f2) F_X9_open rfl rfl tw_916 tw_917 tw_918 hP.right.left ⟨by decide, by decide⟩ rfl hl.1 (Nat.le_of_ble_eq_true rfl) hcs rfl dL_law_518 ?_
  refine lv_icmp_eq (pc := 521) (tgt := 970) hx hb dL_law_521 (by decide) (fun _ => ?_) (fun hne => absurd rfl hne)
  refine W.widen (k := cells + 11) (n := slots + 214) (by omega) (by omega) ?_
  exact kk _ H locs (ST_mk cI cJ cZ cS oe_A mo_A oe_kept_A oe_standing_A pa_A pa_signs_A sc_A sh_A sh_looks_A sh_openBits_A bl_A bl_settings_A od_A od_quarters_A st_A st_talls_A st_pairs_A hw_A hw_cutsFrom_A hw_chosen_A pw_A pw_leaves_A pw_first_A mo_looks_A mo_period_A mo_shut_A mo_phase_A mo_quarters_A mo_tall_A mo_pairs_A mo_pad_A mo_cuts_A mo_at_A mo_first_A mo_kept_A mo_isKept_A oe_kept oe_standing pa_signs pa_count sc_people sc_bride sh_count sh_hands sh_looks sh_openBits bl_flash bl_settings od_tired od_quarters st_rows st_columns st_rise st_talls st_pairs st_changed hw_cutsFrom hw_chosen pw_leaves pw_first pw_people pw_count mo_people mo_shots mo_looks mo_bride mo_hands mo_period mo_shut mo_phase mo_flash mo_quarters mo_tired mo_rows mo_columns mo_rise mo_tall mo_pairs mo_pad mo_padMany mo_cuts mo_at mo_first mo_kept mo_isKept mo_keptAt mo_isWriting X0 X1 n c R C hpad hsh hbl hod hst hpw hk0 hk1) hP hD hS
set_option maxRecDepth 100000 in
theorem lo_fire {p : Program} {l : Launch} {e : Env} {s : State} {m : MethodId} {args : Array Value} {below : List Frame} {meth : Method} {c : Code} {D : va_G} {cI cJ cZ cS : ClassId} (E : Ev p s m args c cL_law 4 RL D cI cJ cZ cS) {b L : Nat} {xs : Nat → Int32} (hX : va_X b L xs s s.heap) (hbl0 : b < s.heap.size) {i : Nat} (hi : i + 3 < L) (hL : L ≤ 2048) {oe_A mo_A : Nat} {ls : Array Slot} (hl : lv_has ls 4 [(0, .ref b), (1, .ref oe_A), (2, .ref mo_A), (3, .int (nI i))]) {ws : va_W} (hs : ST cI cJ cZ cS oe_A mo_A ws) {H : Heap} {locs : List Loc} (hP : va_P D vwCl ws H) (hD : va_D (fun q : Nat => s.heap.size ≤ q) ws) (hS : va_S (fun q : Nat => s.heap.size ≤ q) s.heap H locs) {cells slots : Nat} (hc : cells + 11 ≤ 600000 ∧ slots + 214 ≤ 7302250) {Q : State → Prop} (kk : ∀ (ws' : va_W) (H' : Heap) (locs' : List Loc), ST cI cJ cZ cS oe_A mo_A ws' → va_P D vwCl ws' H' → va_D (fun q : Nat => s.heap.size ≤ q) ws' → va_S (fun q : Nat => s.heap.size ≤ q) s.heap H' locs' → W p l e room_1 s m args below meth c H' locs' (cells + 11) (slots + 214) Q (F0 m 970 ls [])) : W p l e room_1 s m args below meth c H locs cells slots Q (F0 m 526 ls []) := by
  obtain ⟨hx, hb, hml, hown, hts, hG⟩ := id E
  have hA : ∀ q : Nat, s.heap.size ≤ q → (fun q : Nat => s.heap.size ≤ q) q := fun _ h => h
  have hbA : ¬ (fun q : Nat => s.heap.size ≤ q) b := Nat.not_le.mpr hbl0
  have hcs : cells ≤ room_1.cells ∧ slots ≤ room_1.slots := ⟨by show cells ≤ 600000; omega, by show slots ≤ 7302250; omega⟩
  have h_1 : vp_in (nI i + 1) L := by rw [nI_1]; exact vp_in_nI (by omega) (by omega)
  have h_2 : vp_in (nI i + 2) L := by rw [l_2, nI_add]; exact vp_in_nI (by omega) (by omega)
  have h_3 : vp_in (nI i + 3) L := by rw [l_3, nI_add]; exact vp_in_nI (by omega) (by omega)
  revert hP hD
  refine ST_el hs (G := fun ws => va_P D vwCl ws H → va_D (fun q : Nat => s.heap.size ≤ q) ws → W p l e room_1 s m args below meth c H locs cells slots Q (F0 m 526 ls [])) ?_
  intro oe_kept_A oe_standing_A pa_A pa_signs_A sc_A sh_A sh_looks_A sh_openBits_A bl_A bl_settings_A od_A od_quarters_A st_A st_talls_A st_pairs_A hw_A hw_cutsFrom_A hw_chosen_A pw_A pw_leaves_A pw_first_A mo_looks_A mo_period_A mo_shut_A mo_phase_A mo_quarters_A mo_tall_A mo_pairs_A mo_pad_A mo_cuts_A mo_at_A mo_first_A mo_kept_A mo_isKept_A oe_kept oe_standing pa_signs pa_count sc_people sc_bride sh_count sh_hands sh_looks sh_openBits bl_flash bl_settings od_tired od_quarters st_rows st_columns st_rise st_talls st_pairs st_changed hw_cutsFrom hw_chosen pw_leaves pw_first pw_people pw_count mo_people mo_shots mo_looks mo_bride mo_hands mo_period mo_shut mo_phase mo_flash mo_quarters mo_tired mo_rows mo_columns mo_rise mo_tall mo_pairs mo_pad mo_padMany mo_cuts mo_at mo_first mo_kept mo_isKept mo_keptAt mo_isWriting X0 X1 n c R C hpad hsh hbl hod hst hpw hk0 hk1 hP hD
  obtain ⟨N, r, f1, f2⟩ := pu_fire hsh hbl (xs (nI i + 1).toNatClampNeg) (xs (nI i + 2).toNatClampNeg) (xs (nI i + 3).toNatClampNeg)
  refine lv_aload_n (pc := 526) hx hb dL_law_526 rfl (lv_at hl 1 rfl) ?_
  refine lv_aload_n (pc := 527) hx hb dL_law_527 rfl (lv_at hl 0 rfl) ?_
  refine lv_iload_n (pc := 528) hx hb dL_law_528 rfl (lv_at hl 3 rfl) ?_
  refine lv_iconst (pc := 529) (v := (1 : Int32)) hx hb dL_law_529 (by decide) ?_
  refine lv_iadd (pc := 530) hx hb dL_law_530 ?_
  refine va_sld (pc := 531) hx hb hX hbl0 hbA hS h_1 dL_law_531 ?_
  refine lv_aload_n (pc := 532) hx hb dL_law_532 rfl (lv_at hl 0 rfl) ?_
  refine lv_iload_n (pc := 533) hx hb dL_law_533 rfl (lv_at hl 3 rfl) ?_
  refine lv_iconst (pc := 534) (v := (2 : Int32)) hx hb dL_law_534 (by decide) ?_
  refine lv_iadd (pc := 535) hx hb dL_law_535 ?_
  refine va_sld (pc := 536) hx hb hX hbl0 hbA hS h_2 dL_law_536 ?_
  refine lv_aload_n (pc := 537) hx hb dL_law_537 rfl (lv_at hl 0 rfl) ?_
  refine lv_iload_n (pc := 538) hx hb dL_law_538 rfl (lv_at hl 3 rfl) ?_
  refine lv_iconst (pc := 539) (v := (3 : Int32)) hx hb dL_law_539 (by decide) ?_
  refine lv_iadd (pc := 540) hx hb dL_law_540 ?_
  refine va_sld (pc := 541) hx hb hX hbl0 hbA hS h_3 dL_law_541 ?_
  refine ro_Vi (pc := 542) (rest := []) E (c_X8_fire l D cI cJ cZ cS N oe_A oe_kept_A oe_standing_A pa_A pa_signs_A sc_A sh_A sh_looks_A sh_openBits_A bl_A bl_settings_A od_A od_quarters_A st_A st_talls_A st_pairs_A hw_A hw_cutsFrom_A hw_chosen_A pw_A pw_leaves_A pw_first_A oe_kept oe_standing pa_signs pa_count sc_people sc_bride sh_count sh_hands sh_looks sh_openBits bl_flash bl_settings od_tired od_quarters st_rows st_columns st_rise st_talls st_pairs st_changed hw_cutsFrom hw_chosen pw_leaves pw_first pw_people pw_count (xs (nI i + 1).toNatClampNeg) (xs (nI i + 2).toNatClampNeg) (xs (nI i + 3).toNatClampNeg) r f1) F_X8_fire rfl rfl tw_474 tw_475 tw_476 hP.left ⟨by decide, by decide⟩ rfl hl.1 (Nat.le_of_ble_eq_true rfl) hcs rfl dL_law_542 ?_
  refine lv_aload_n (pc := 545) hx hb dL_law_545 rfl (lv_at hl 2 rfl) ?_
  refine lv_aload_n (pc := 546) hx hb dL_law_546 rfl (lv_at hl 0 rfl) ?_
  refine lv_iload_n (pc := 547) hx hb dL_law_547 rfl (lv_at hl 3 rfl) ?_
  refine lv_iconst (pc := 548) (v := (1 : Int32)) hx hb dL_law_548 (by decide) ?_
  refine lv_iadd (pc := 549) hx hb dL_law_549 ?_
  refine va_sld (pc := 550) hx hb hX hbl0 hbA hS h_1 dL_law_550 ?_
  refine lv_aload_n (pc := 551) hx hb dL_law_551 rfl (lv_at hl 0 rfl) ?_
  refine lv_iload_n (pc := 552) hx hb dL_law_552 rfl (lv_at hl 3 rfl) ?_
  refine lv_iconst (pc := 553) (v := (2 : Int32)) hx hb dL_law_553 (by decide) ?_
  refine lv_iadd (pc := 554) hx hb dL_law_554 ?_
  refine va_sld (pc := 555) hx hb hX hbl0 hbA hS h_2 dL_law_555 ?_
  refine lv_aload_n (pc := 556) hx hb dL_law_556 rfl (lv_at hl 0 rfl) ?_
  refine lv_iload_n (pc := 557) hx hb dL_law_557 rfl (lv_at hl 3 rfl) ?_
  refine lv_iconst (pc := 558) (v := (3 : Int32)) hx hb dL_law_558 (by decide) ?_
  refine lv_iadd (pc := 559) hx hb dL_law_559 ?_
  refine va_sld (pc := 560) hx hb hX hbl0 hbA hS h_3 dL_law_560 ?_
  refine ro_Vi (pc := 561) (rest := [.int r]) E (c_X9_fire l D cI cJ cZ cS N mo_A mo_looks_A mo_period_A mo_shut_A mo_phase_A mo_quarters_A mo_tall_A mo_pairs_A mo_pad_A mo_cuts_A mo_at_A mo_first_A mo_kept_A mo_isKept_A mo_people mo_shots mo_looks mo_bride mo_hands mo_period mo_shut mo_phase mo_flash mo_quarters mo_tired mo_rows mo_columns mo_rise mo_tall mo_pairs mo_pad mo_padMany mo_cuts mo_at mo_first mo_kept mo_isKept mo_keptAt mo_isWriting (xs (nI i + 1).toNatClampNeg) (xs (nI i + 2).toNatClampNeg) (xs (nI i + 3).toNatClampNeg) r f2) F_X9_fire rfl rfl tw_924 tw_925 tw_926 hP.right.left ⟨by decide, by decide⟩ rfl hl.1 (Nat.le_of_ble_eq_true rfl) hcs rfl dL_law_561 ?_
  refine lv_icmp_eq (pc := 564) (tgt := 970) hx hb dL_law_564 (by decide) (fun _ => ?_) (fun hne => absurd rfl hne)
  refine W.widen (k := cells + 11) (n := slots + 214) (by omega) (by omega) ?_
  exact kk _ H locs (ST_mk cI cJ cZ cS oe_A mo_A oe_kept_A oe_standing_A pa_A pa_signs_A sc_A sh_A sh_looks_A sh_openBits_A bl_A bl_settings_A od_A od_quarters_A st_A st_talls_A st_pairs_A hw_A hw_cutsFrom_A hw_chosen_A pw_A pw_leaves_A pw_first_A mo_looks_A mo_period_A mo_shut_A mo_phase_A mo_quarters_A mo_tall_A mo_pairs_A mo_pad_A mo_cuts_A mo_at_A mo_first_A mo_kept_A mo_isKept_A oe_kept oe_standing pa_signs pa_count sc_people sc_bride sh_count sh_hands sh_looks sh_openBits bl_flash bl_settings od_tired od_quarters st_rows st_columns st_rise st_talls st_pairs st_changed hw_cutsFrom hw_chosen pw_leaves pw_first pw_people pw_count mo_people mo_shots mo_looks mo_bride mo_hands mo_period mo_shut mo_phase mo_flash mo_quarters mo_tired mo_rows mo_columns mo_rise mo_tall mo_pairs mo_pad mo_padMany mo_cuts mo_at mo_first mo_kept mo_isKept mo_keptAt mo_isWriting X0 X1 n c R C hpad hsh hbl hod hst hpw hk0 hk1) hP hD hS
set_option maxRecDepth 100000 in
theorem lo_bad {p : Program} {l : Launch} {e : Env} {s : State} {m : MethodId} {args : Array Value} {below : List Frame} {meth : Method} {c : Code} {D : va_G} {cI cJ cZ cS : ClassId} (E : Ev p s m args c cL_law 4 RL D cI cJ cZ cS) {b L : Nat} {xs : Nat → Int32} (hX : va_X b L xs s s.heap) (hbl0 : b < s.heap.size) {i : Nat} (hi : i + 3 < L) (hL : L ≤ 2048) {oe_A mo_A : Nat} {ls : Array Slot} (hl : lv_has ls 4 [(0, .ref b), (1, .ref oe_A), (2, .ref mo_A), (3, .int (nI i))]) {ws : va_W} (hs : ST cI cJ cZ cS oe_A mo_A ws) {H : Heap} {locs : List Loc} (hP : va_P D vwCl ws H) (hD : va_D (fun q : Nat => s.heap.size ≤ q) ws) (hS : va_S (fun q : Nat => s.heap.size ≤ q) s.heap H locs) {cells slots : Nat} (hc : cells + 11 ≤ 600000 ∧ slots + 214 ≤ 7302250) {Q : State → Prop} (kk : ∀ (ws' : va_W) (H' : Heap) (locs' : List Loc), ST cI cJ cZ cS oe_A mo_A ws' → va_P D vwCl ws' H' → va_D (fun q : Nat => s.heap.size ≤ q) ws' → va_S (fun q : Nat => s.heap.size ≤ q) s.heap H' locs' → W p l e room_1 s m args below meth c H' locs' (cells + 11) (slots + 214) Q (F0 m 970 ls [])) : W p l e room_1 s m args below meth c H locs cells slots Q (F0 m 569 ls []) := by
  obtain ⟨hx, hb, hml, hown, hts, hG⟩ := id E
  have hA : ∀ q : Nat, s.heap.size ≤ q → (fun q : Nat => s.heap.size ≤ q) q := fun _ h => h
  have hbA : ¬ (fun q : Nat => s.heap.size ≤ q) b := Nat.not_le.mpr hbl0
  have hcs : cells ≤ room_1.cells ∧ slots ≤ room_1.slots := ⟨by show cells ≤ 600000; omega, by show slots ≤ 7302250; omega⟩
  have h_1 : vp_in (nI i + 1) L := by rw [nI_1]; exact vp_in_nI (by omega) (by omega)
  have h_2 : vp_in (nI i + 2) L := by rw [l_2, nI_add]; exact vp_in_nI (by omega) (by omega)
  have h_3 : vp_in (nI i + 3) L := by rw [l_3, nI_add]; exact vp_in_nI (by omega) (by omega)
  revert hP hD
  refine ST_el hs (G := fun ws => va_P D vwCl ws H → va_D (fun q : Nat => s.heap.size ≤ q) ws → W p l e room_1 s m args below meth c H locs cells slots Q (F0 m 569 ls [])) ?_
  intro oe_kept_A oe_standing_A pa_A pa_signs_A sc_A sh_A sh_looks_A sh_openBits_A bl_A bl_settings_A od_A od_quarters_A st_A st_talls_A st_pairs_A hw_A hw_cutsFrom_A hw_chosen_A pw_A pw_leaves_A pw_first_A mo_looks_A mo_period_A mo_shut_A mo_phase_A mo_quarters_A mo_tall_A mo_pairs_A mo_pad_A mo_cuts_A mo_at_A mo_first_A mo_kept_A mo_isKept_A oe_kept oe_standing pa_signs pa_count sc_people sc_bride sh_count sh_hands sh_looks sh_openBits bl_flash bl_settings od_tired od_quarters st_rows st_columns st_rise st_talls st_pairs st_changed hw_cutsFrom hw_chosen pw_leaves pw_first pw_people pw_count mo_people mo_shots mo_looks mo_bride mo_hands mo_period mo_shut mo_phase mo_flash mo_quarters mo_tired mo_rows mo_columns mo_rise mo_tall mo_pairs mo_pad mo_padMany mo_cuts mo_at mo_first mo_kept mo_isKept mo_keptAt mo_isWriting X0 X1 n c R C hpad hsh hbl hod hst hpw hk0 hk1 hP hD
  obtain ⟨r, r_od_tired, r_od_quarters, r_mo_tired, r_mo_quarters, f1, f2, hod⟩ := pu_bad hsh hod (xs (nI i + 1).toNatClampNeg) (xs (nI i + 2).toNatClampNeg)
  refine lv_aload_n (pc := 569) hx hb dL_law_569 rfl (lv_at hl 1 rfl) ?_
  refine lv_aload_n (pc := 570) hx hb dL_law_570 rfl (lv_at hl 0 rfl) ?_
  refine lv_iload_n (pc := 571) hx hb dL_law_571 rfl (lv_at hl 3 rfl) ?_
  refine lv_iconst (pc := 572) (v := (1 : Int32)) hx hb dL_law_572 (by decide) ?_
  refine lv_iadd (pc := 573) hx hb dL_law_573 ?_
  refine va_sld (pc := 574) hx hb hX hbl0 hbA hS h_1 dL_law_574 ?_
  refine lv_aload_n (pc := 575) hx hb dL_law_575 rfl (lv_at hl 0 rfl) ?_
  refine lv_iload_n (pc := 576) hx hb dL_law_576 rfl (lv_at hl 3 rfl) ?_
  refine lv_iconst (pc := 577) (v := (2 : Int32)) hx hb dL_law_577 (by decide) ?_
  refine lv_iadd (pc := 578) hx hb dL_law_578 ?_
  refine va_sld (pc := 579) hx hb hX hbl0 hbA hS h_2 dL_law_579 ?_
  refine rwA (pc := 580) (rest := []) E (c_X8_bad l D cI cJ cZ cS oe_A oe_kept_A oe_standing_A pa_A pa_signs_A sc_A sh_A sh_looks_A sh_openBits_A bl_A bl_settings_A od_A od_quarters_A st_A st_talls_A st_pairs_A hw_A hw_cutsFrom_A hw_chosen_A pw_A pw_leaves_A pw_first_A oe_kept oe_standing pa_signs pa_count sc_people sc_bride sh_count sh_hands sh_looks sh_openBits bl_flash bl_settings od_tired od_quarters st_rows st_columns st_rise st_talls st_pairs st_changed hw_cutsFrom hw_chosen pw_leaves pw_first pw_people pw_count (xs (nI i + 1).toNatClampNeg) (xs (nI i + 2).toNatClampNeg) H.size r r_od_tired r_od_quarters f1) F_X8_bad rfl rfl tw_489 tw_490 tw_491 hP hD hS hA ⟨by decide, by decide⟩ rfl hl.1 (Nat.le_of_ble_eq_true rfl) hcs rfl dL_law_580 (fun H locs hP hD hS => ?_)
  refine lv_aload_n (pc := 583) hx hb dL_law_583 rfl (lv_at hl 2 rfl) ?_
  refine lv_aload_n (pc := 584) hx hb dL_law_584 rfl (lv_at hl 0 rfl) ?_
  refine lv_iload_n (pc := 585) hx hb dL_law_585 rfl (lv_at hl 3 rfl) ?_
  refine lv_iconst (pc := 586) (v := (1 : Int32)) hx hb dL_law_586 (by decide) ?_
  refine lv_iadd (pc := 587) hx hb dL_law_587 ?_
  refine va_sld (pc := 588) hx hb hX hbl0 hbA hS h_1 dL_law_588 ?_
  refine lv_aload_n (pc := 589) hx hb dL_law_589 rfl (lv_at hl 0 rfl) ?_
  refine lv_iload_n (pc := 590) hx hb dL_law_590 rfl (lv_at hl 3 rfl) ?_
  refine lv_iconst (pc := 591) (v := (2 : Int32)) hx hb dL_law_591 (by decide) ?_
  refine lv_iadd (pc := 592) hx hb dL_law_592 ?_
  refine va_sld (pc := 593) hx hb hX hbl0 hbA hS h_2 dL_law_593 ?_
  have hP := hP.perm (rot _ _ _)
  have hD := hD.perm (rot _ _ _)
  refine rwA (pc := 594) (rest := [.int r]) E (c_X9_bad l D cI cJ cZ cS mo_A mo_looks_A mo_period_A mo_shut_A mo_phase_A mo_quarters_A mo_tall_A mo_pairs_A mo_pad_A mo_cuts_A mo_at_A mo_first_A mo_kept_A mo_isKept_A mo_people mo_shots mo_looks mo_bride mo_hands mo_period mo_shut mo_phase mo_flash mo_quarters mo_tired mo_rows mo_columns mo_rise mo_tall mo_pairs mo_pad mo_padMany mo_cuts mo_at mo_first mo_kept mo_isKept mo_keptAt mo_isWriting (xs (nI i + 1).toNatClampNeg) (xs (nI i + 2).toNatClampNeg) H.size r r_mo_tired r_mo_quarters f2) F_X9_bad rfl rfl tw_929 tw_930 tw_931 hP hD hS hA ⟨by decide, by decide⟩ rfl hl.1 (Nat.le_of_ble_eq_true rfl) hcs rfl dL_law_594 (fun H locs hP hD hS => ?_)
  have hP := hP.perm (rot _ _ _)
  have hD := hD.perm (rot _ _ _)
  refine lv_icmp_eq (pc := 597) (tgt := 970) hx hb dL_law_597 (by decide) (fun _ => ?_) (fun hne => absurd rfl hne)
  refine W.widen (k := cells + 11) (n := slots + 214) (by omega) (by omega) ?_
  exact kk _ H locs (ST_mk cI cJ cZ cS oe_A mo_A oe_kept_A oe_standing_A pa_A pa_signs_A sc_A sh_A sh_looks_A sh_openBits_A bl_A bl_settings_A od_A od_quarters_A st_A st_talls_A st_pairs_A hw_A hw_cutsFrom_A hw_chosen_A pw_A pw_leaves_A pw_first_A mo_looks_A mo_period_A mo_shut_A mo_phase_A mo_quarters_A mo_tall_A mo_pairs_A mo_pad_A mo_cuts_A mo_at_A mo_first_A mo_kept_A mo_isKept_A oe_kept oe_standing pa_signs pa_count sc_people sc_bride sh_count sh_hands sh_looks sh_openBits bl_flash bl_settings r_od_tired r_od_quarters st_rows st_columns st_rise st_talls st_pairs st_changed hw_cutsFrom hw_chosen pw_leaves pw_first pw_people pw_count mo_people mo_shots mo_looks mo_bride mo_hands mo_period mo_shut mo_phase mo_flash r_mo_quarters r_mo_tired mo_rows mo_columns mo_rise mo_tall mo_pairs mo_pad mo_padMany mo_cuts mo_at mo_first mo_kept mo_isKept mo_keptAt mo_isWriting X0 X1 n c R C hpad hsh hbl hod hst hpw hk0 hk1) hP hD hS
set_option maxRecDepth 100000 in
theorem lo_likely {p : Program} {l : Launch} {e : Env} {s : State} {m : MethodId} {args : Array Value} {below : List Frame} {meth : Method} {c : Code} {D : va_G} {cI cJ cZ cS : ClassId} (E : Ev p s m args c cL_law 4 RL D cI cJ cZ cS) {b L : Nat} {xs : Nat → Int32} (hX : va_X b L xs s s.heap) (hbl0 : b < s.heap.size) {i : Nat} (hi : i + 3 < L) (hL : L ≤ 2048) {oe_A mo_A : Nat} {ls : Array Slot} (hl : lv_has ls 4 [(0, .ref b), (1, .ref oe_A), (2, .ref mo_A), (3, .int (nI i))]) {ws : va_W} (hs : ST cI cJ cZ cS oe_A mo_A ws) {H : Heap} {locs : List Loc} (hP : va_P D vwCl ws H) (hD : va_D (fun q : Nat => s.heap.size ≤ q) ws) (hS : va_S (fun q : Nat => s.heap.size ≤ q) s.heap H locs) {cells slots : Nat} (hc : cells + 11 ≤ 600000 ∧ slots + 214 ≤ 7302250) {Q : State → Prop} (kk : ∀ (ws' : va_W) (H' : Heap) (locs' : List Loc), ST cI cJ cZ cS oe_A mo_A ws' → va_P D vwCl ws' H' → va_D (fun q : Nat => s.heap.size ≤ q) ws' → va_S (fun q : Nat => s.heap.size ≤ q) s.heap H' locs' → W p l e room_1 s m args below meth c H' locs' (cells + 11) (slots + 214) Q (F0 m 970 ls [])) : W p l e room_1 s m args below meth c H locs cells slots Q (F0 m 602 ls []) := by
  obtain ⟨hx, hb, hml, hown, hts, hG⟩ := id E
  have hA : ∀ q : Nat, s.heap.size ≤ q → (fun q : Nat => s.heap.size ≤ q) q := fun _ h => h
  have hbA : ¬ (fun q : Nat => s.heap.size ≤ q) b := Nat.not_le.mpr hbl0
  have hcs : cells ≤ room_1.cells ∧ slots ≤ room_1.slots := ⟨by show cells ≤ 600000; omega, by show slots ≤ 7302250; omega⟩
  have h_1 : vp_in (nI i + 1) L := by rw [nI_1]; exact vp_in_nI (by omega) (by omega)
  have h_2 : vp_in (nI i + 2) L := by rw [l_2, nI_add]; exact vp_in_nI (by omega) (by omega)
  have h_3 : vp_in (nI i + 3) L := by rw [l_3, nI_add]; exact vp_in_nI (by omega) (by omega)
  revert hP hD
  refine ST_el hs (G := fun ws => va_P D vwCl ws H → va_D (fun q : Nat => s.heap.size ≤ q) ws → W p l e room_1 s m args below meth c H locs cells slots Q (F0 m 602 ls [])) ?_
  intro oe_kept_A oe_standing_A pa_A pa_signs_A sc_A sh_A sh_looks_A sh_openBits_A bl_A bl_settings_A od_A od_quarters_A st_A st_talls_A st_pairs_A hw_A hw_cutsFrom_A hw_chosen_A pw_A pw_leaves_A pw_first_A mo_looks_A mo_period_A mo_shut_A mo_phase_A mo_quarters_A mo_tall_A mo_pairs_A mo_pad_A mo_cuts_A mo_at_A mo_first_A mo_kept_A mo_isKept_A oe_kept oe_standing pa_signs pa_count sc_people sc_bride sh_count sh_hands sh_looks sh_openBits bl_flash bl_settings od_tired od_quarters st_rows st_columns st_rise st_talls st_pairs st_changed hw_cutsFrom hw_chosen pw_leaves pw_first pw_people pw_count mo_people mo_shots mo_looks mo_bride mo_hands mo_period mo_shut mo_phase mo_flash mo_quarters mo_tired mo_rows mo_columns mo_rise mo_tall mo_pairs mo_pad mo_padMany mo_cuts mo_at mo_first mo_kept mo_isKept mo_keptAt mo_isWriting X0 X1 n c R C hpad hsh hbl hod hst hpw hk0 hk1 hP hD
  obtain ⟨N, r, f1, f2⟩ := pu_likely hsh hod (xs (nI i + 1).toNatClampNeg) (xs (nI i + 2).toNatClampNeg)
  refine lv_aload_n (pc := 602) hx hb dL_law_602 rfl (lv_at hl 1 rfl) ?_
  refine lv_aload_n (pc := 603) hx hb dL_law_603 rfl (lv_at hl 0 rfl) ?_
  refine lv_iload_n (pc := 604) hx hb dL_law_604 rfl (lv_at hl 3 rfl) ?_
  refine lv_iconst (pc := 605) (v := (1 : Int32)) hx hb dL_law_605 (by decide) ?_
  refine lv_iadd (pc := 606) hx hb dL_law_606 ?_
  refine va_sld (pc := 607) hx hb hX hbl0 hbA hS h_1 dL_law_607 ?_
  refine lv_aload_n (pc := 608) hx hb dL_law_608 rfl (lv_at hl 0 rfl) ?_
  refine lv_iload_n (pc := 609) hx hb dL_law_609 rfl (lv_at hl 3 rfl) ?_
  refine lv_iconst (pc := 610) (v := (2 : Int32)) hx hb dL_law_610 (by decide) ?_
  refine lv_iadd (pc := 611) hx hb dL_law_611 ?_
  refine va_sld (pc := 612) hx hb hX hbl0 hbA hS h_2 dL_law_612 ?_
  refine ro_Vl (pc := 613) (rest := []) E (c_X8_likely l D cI cJ cZ cS N oe_A oe_kept_A oe_standing_A pa_A pa_signs_A sc_A sh_A sh_looks_A sh_openBits_A bl_A bl_settings_A od_A od_quarters_A st_A st_talls_A st_pairs_A hw_A hw_cutsFrom_A hw_chosen_A pw_A pw_leaves_A pw_first_A oe_kept oe_standing pa_signs pa_count sc_people sc_bride sh_count sh_hands sh_looks sh_openBits bl_flash bl_settings od_tired od_quarters st_rows st_columns st_rise st_talls st_pairs st_changed hw_cutsFrom hw_chosen pw_leaves pw_first pw_people pw_count (xs (nI i + 1).toNatClampNeg) (xs (nI i + 2).toNatClampNeg) r f1) F_X8_likely rfl rfl tw_501 tw_502 tw_503 hP.left ⟨by decide, by decide⟩ rfl hl.1 (Nat.le_of_ble_eq_true rfl) hcs rfl dL_law_613 ?_
  refine lv_aload_n (pc := 616) hx hb dL_law_616 rfl (lv_at hl 2 rfl) ?_
  refine lv_aload_n (pc := 617) hx hb dL_law_617 rfl (lv_at hl 0 rfl) ?_
  refine lv_iload_n (pc := 618) hx hb dL_law_618 rfl (lv_at hl 3 rfl) ?_
  refine lv_iconst (pc := 619) (v := (1 : Int32)) hx hb dL_law_619 (by decide) ?_
  refine lv_iadd (pc := 620) hx hb dL_law_620 ?_
  refine va_sld (pc := 621) hx hb hX hbl0 hbA hS h_1 dL_law_621 ?_
  refine lv_aload_n (pc := 622) hx hb dL_law_622 rfl (lv_at hl 0 rfl) ?_
  refine lv_iload_n (pc := 623) hx hb dL_law_623 rfl (lv_at hl 3 rfl) ?_
  refine lv_iconst (pc := 624) (v := (2 : Int32)) hx hb dL_law_624 (by decide) ?_
  refine lv_iadd (pc := 625) hx hb dL_law_625 ?_
  refine va_sld (pc := 626) hx hb hX hbl0 hbA hS h_2 dL_law_626 ?_
  refine ro_Vl (pc := 627) (rest := [.long r]) E (c_X9_likely l D cI cJ cZ cS N mo_A mo_looks_A mo_period_A mo_shut_A mo_phase_A mo_quarters_A mo_tall_A mo_pairs_A mo_pad_A mo_cuts_A mo_at_A mo_first_A mo_kept_A mo_isKept_A mo_people mo_shots mo_looks mo_bride mo_hands mo_period mo_shut mo_phase mo_flash mo_quarters mo_tired mo_rows mo_columns mo_rise mo_tall mo_pairs mo_pad mo_padMany mo_cuts mo_at mo_first mo_kept mo_isKept mo_keptAt mo_isWriting (xs (nI i + 1).toNatClampNeg) (xs (nI i + 2).toNatClampNeg) r f2) F_X9_likely rfl rfl tw_935 tw_936 tw_937 hP.right.left ⟨by decide, by decide⟩ rfl hl.1 (Nat.le_of_ble_eq_true rfl) hcs rfl dL_law_627 ?_
  refine W.lcmp (pc := 630) hx hb dL_law_630 ?_
  refine lv_if_eq (pc := 631) (tgt := 970) hx hb dL_law_631 (by decide) (fun _ => ?_) (fun hne => absurd ((lg_cmp_eq _ _).mpr rfl) hne)
  refine W.widen (k := cells + 11) (n := slots + 214) (by omega) (by omega) ?_
  exact kk _ H locs (ST_mk cI cJ cZ cS oe_A mo_A oe_kept_A oe_standing_A pa_A pa_signs_A sc_A sh_A sh_looks_A sh_openBits_A bl_A bl_settings_A od_A od_quarters_A st_A st_talls_A st_pairs_A hw_A hw_cutsFrom_A hw_chosen_A pw_A pw_leaves_A pw_first_A mo_looks_A mo_period_A mo_shut_A mo_phase_A mo_quarters_A mo_tall_A mo_pairs_A mo_pad_A mo_cuts_A mo_at_A mo_first_A mo_kept_A mo_isKept_A oe_kept oe_standing pa_signs pa_count sc_people sc_bride sh_count sh_hands sh_looks sh_openBits bl_flash bl_settings od_tired od_quarters st_rows st_columns st_rise st_talls st_pairs st_changed hw_cutsFrom hw_chosen pw_leaves pw_first pw_people pw_count mo_people mo_shots mo_looks mo_bride mo_hands mo_period mo_shut mo_phase mo_flash mo_quarters mo_tired mo_rows mo_columns mo_rise mo_tall mo_pairs mo_pad mo_padMany mo_cuts mo_at mo_first mo_kept mo_isKept mo_keptAt mo_isWriting X0 X1 n c R C hpad hsh hbl hod hst hpw hk0 hk1) hP hD hS
set_option maxRecDepth 100000 in
theorem lo_one {p : Program} {l : Launch} {e : Env} {s : State} {m : MethodId} {args : Array Value} {below : List Frame} {meth : Method} {c : Code} {D : va_G} {cI cJ cZ cS : ClassId} (E : Ev p s m args c cL_law 4 RL D cI cJ cZ cS) {b L : Nat} {xs : Nat → Int32} (hX : va_X b L xs s s.heap) (hbl0 : b < s.heap.size) {i : Nat} (hi : i + 3 < L) (hL : L ≤ 2048) {oe_A mo_A : Nat} {ls : Array Slot} (hl : lv_has ls 4 [(0, .ref b), (1, .ref oe_A), (2, .ref mo_A), (3, .int (nI i))]) {ws : va_W} (hs : ST cI cJ cZ cS oe_A mo_A ws) {H : Heap} {locs : List Loc} (hP : va_P D vwCl ws H) (hD : va_D (fun q : Nat => s.heap.size ≤ q) ws) (hS : va_S (fun q : Nat => s.heap.size ≤ q) s.heap H locs) {cells slots : Nat} (hc : cells + 11 ≤ 600000 ∧ slots + 214 ≤ 7302250) {Q : State → Prop} (kk : ∀ (ws' : va_W) (H' : Heap) (locs' : List Loc), ST cI cJ cZ cS oe_A mo_A ws' → va_P D vwCl ws' H' → va_D (fun q : Nat => s.heap.size ≤ q) ws' → va_S (fun q : Nat => s.heap.size ≤ q) s.heap H' locs' → W p l e room_1 s m args below meth c H' locs' (cells + 11) (slots + 214) Q (F0 m 970 ls [])) : W p l e room_1 s m args below meth c H locs cells slots Q (F0 m 636 ls []) := by
  obtain ⟨hx, hb, hml, hown, hts, hG⟩ := id E
  have hA : ∀ q : Nat, s.heap.size ≤ q → (fun q : Nat => s.heap.size ≤ q) q := fun _ h => h
  have hbA : ¬ (fun q : Nat => s.heap.size ≤ q) b := Nat.not_le.mpr hbl0
  have hcs : cells ≤ room_1.cells ∧ slots ≤ room_1.slots := ⟨by show cells ≤ 600000; omega, by show slots ≤ 7302250; omega⟩
  have h_1 : vp_in (nI i + 1) L := by rw [nI_1]; exact vp_in_nI (by omega) (by omega)
  have h_2 : vp_in (nI i + 2) L := by rw [l_2, nI_add]; exact vp_in_nI (by omega) (by omega)
  have h_3 : vp_in (nI i + 3) L := by rw [l_3, nI_add]; exact vp_in_nI (by omega) (by omega)
  revert hP hD
  refine ST_el hs (G := fun ws => va_P D vwCl ws H → va_D (fun q : Nat => s.heap.size ≤ q) ws → W p l e room_1 s m args below meth c H locs cells slots Q (F0 m 636 ls [])) ?_
  intro oe_kept_A oe_standing_A pa_A pa_signs_A sc_A sh_A sh_looks_A sh_openBits_A bl_A bl_settings_A od_A od_quarters_A st_A st_talls_A st_pairs_A hw_A hw_cutsFrom_A hw_chosen_A pw_A pw_leaves_A pw_first_A mo_looks_A mo_period_A mo_shut_A mo_phase_A mo_quarters_A mo_tall_A mo_pairs_A mo_pad_A mo_cuts_A mo_at_A mo_first_A mo_kept_A mo_isKept_A oe_kept oe_standing pa_signs pa_count sc_people sc_bride sh_count sh_hands sh_looks sh_openBits bl_flash bl_settings od_tired od_quarters st_rows st_columns st_rise st_talls st_pairs st_changed hw_cutsFrom hw_chosen pw_leaves pw_first pw_people pw_count mo_people mo_shots mo_looks mo_bride mo_hands mo_period mo_shut mo_phase mo_flash mo_quarters mo_tired mo_rows mo_columns mo_rise mo_tall mo_pairs mo_pad mo_padMany mo_cuts mo_at mo_first mo_kept mo_isKept mo_keptAt mo_isWriting X0 X1 n c R C hpad hsh hbl hod hst hpw hk0 hk1 hP hD
  obtain ⟨N, r, f1, f2⟩ := pu_one hsh hod (xs (nI i + 1).toNatClampNeg) (xs (nI i + 2).toNatClampNeg)
  refine lv_aload_n (pc := 636) hx hb dL_law_636 rfl (lv_at hl 1 rfl) ?_
  refine lv_aload_n (pc := 637) hx hb dL_law_637 rfl (lv_at hl 0 rfl) ?_
  refine lv_iload_n (pc := 638) hx hb dL_law_638 rfl (lv_at hl 3 rfl) ?_
  refine lv_iconst (pc := 639) (v := (1 : Int32)) hx hb dL_law_639 (by decide) ?_
  refine lv_iadd (pc := 640) hx hb dL_law_640 ?_
  refine va_sld (pc := 641) hx hb hX hbl0 hbA hS h_1 dL_law_641 ?_
  refine lv_aload_n (pc := 642) hx hb dL_law_642 rfl (lv_at hl 0 rfl) ?_
  refine lv_iload_n (pc := 643) hx hb dL_law_643 rfl (lv_at hl 3 rfl) ?_
  refine lv_iconst (pc := 644) (v := (2 : Int32)) hx hb dL_law_644 (by decide) ?_
  refine lv_iadd (pc := 645) hx hb dL_law_645 ?_
  refine va_sld (pc := 646) hx hb hX hbl0 hbA hS h_2 dL_law_646 ?_
  refine ro_Vl (pc := 647) (rest := []) E (c_X8_one l D cI cJ cZ cS N oe_A oe_kept_A oe_standing_A pa_A pa_signs_A sc_A sh_A sh_looks_A sh_openBits_A bl_A bl_settings_A od_A od_quarters_A st_A st_talls_A st_pairs_A hw_A hw_cutsFrom_A hw_chosen_A pw_A pw_leaves_A pw_first_A oe_kept oe_standing pa_signs pa_count sc_people sc_bride sh_count sh_hands sh_looks sh_openBits bl_flash bl_settings od_tired od_quarters st_rows st_columns st_rise st_talls st_pairs st_changed hw_cutsFrom hw_chosen pw_leaves pw_first pw_people pw_count (xs (nI i + 1).toNatClampNeg) (xs (nI i + 2).toNatClampNeg) r f1) F_X8_one rfl rfl tw_522 tw_523 tw_524 hP.left ⟨by decide, by decide⟩ rfl hl.1 (Nat.le_of_ble_eq_true rfl) hcs rfl dL_law_647 ?_
  refine lv_aload_n (pc := 650) hx hb dL_law_650 rfl (lv_at hl 2 rfl) ?_
  refine lv_aload_n (pc := 651) hx hb dL_law_651 rfl (lv_at hl 0 rfl) ?_
  refine lv_iload_n (pc := 652) hx hb dL_law_652 rfl (lv_at hl 3 rfl) ?_
  refine lv_iconst (pc := 653) (v := (1 : Int32)) hx hb dL_law_653 (by decide) ?_
  refine lv_iadd (pc := 654) hx hb dL_law_654 ?_
  refine va_sld (pc := 655) hx hb hX hbl0 hbA hS h_1 dL_law_655 ?_
  refine lv_aload_n (pc := 656) hx hb dL_law_656 rfl (lv_at hl 0 rfl) ?_
  refine lv_iload_n (pc := 657) hx hb dL_law_657 rfl (lv_at hl 3 rfl) ?_
  refine lv_iconst (pc := 658) (v := (2 : Int32)) hx hb dL_law_658 (by decide) ?_
  refine lv_iadd (pc := 659) hx hb dL_law_659 ?_
  refine va_sld (pc := 660) hx hb hX hbl0 hbA hS h_2 dL_law_660 ?_
  refine ro_Vl (pc := 661) (rest := [.long r]) E (c_X9_one l D cI cJ cZ cS N mo_A mo_looks_A mo_period_A mo_shut_A mo_phase_A mo_quarters_A mo_tall_A mo_pairs_A mo_pad_A mo_cuts_A mo_at_A mo_first_A mo_kept_A mo_isKept_A mo_people mo_shots mo_looks mo_bride mo_hands mo_period mo_shut mo_phase mo_flash mo_quarters mo_tired mo_rows mo_columns mo_rise mo_tall mo_pairs mo_pad mo_padMany mo_cuts mo_at mo_first mo_kept mo_isKept mo_keptAt mo_isWriting (xs (nI i + 1).toNatClampNeg) (xs (nI i + 2).toNatClampNeg) r f2) F_X9_one rfl rfl tw_951 tw_952 tw_953 hP.right.left ⟨by decide, by decide⟩ rfl hl.1 (Nat.le_of_ble_eq_true rfl) hcs rfl dL_law_661 ?_
  refine W.lcmp (pc := 664) hx hb dL_law_664 ?_
  refine lv_if_eq (pc := 665) (tgt := 970) hx hb dL_law_665 (by decide) (fun _ => ?_) (fun hne => absurd ((lg_cmp_eq _ _).mpr rfl) hne)
  refine W.widen (k := cells + 11) (n := slots + 214) (by omega) (by omega) ?_
  exact kk _ H locs (ST_mk cI cJ cZ cS oe_A mo_A oe_kept_A oe_standing_A pa_A pa_signs_A sc_A sh_A sh_looks_A sh_openBits_A bl_A bl_settings_A od_A od_quarters_A st_A st_talls_A st_pairs_A hw_A hw_cutsFrom_A hw_chosen_A pw_A pw_leaves_A pw_first_A mo_looks_A mo_period_A mo_shut_A mo_phase_A mo_quarters_A mo_tall_A mo_pairs_A mo_pad_A mo_cuts_A mo_at_A mo_first_A mo_kept_A mo_isKept_A oe_kept oe_standing pa_signs pa_count sc_people sc_bride sh_count sh_hands sh_looks sh_openBits bl_flash bl_settings od_tired od_quarters st_rows st_columns st_rise st_talls st_pairs st_changed hw_cutsFrom hw_chosen pw_leaves pw_first pw_people pw_count mo_people mo_shots mo_looks mo_bride mo_hands mo_period mo_shut mo_phase mo_flash mo_quarters mo_tired mo_rows mo_columns mo_rise mo_tall mo_pairs mo_pad mo_padMany mo_cuts mo_at mo_first mo_kept mo_isKept mo_keptAt mo_isWriting X0 X1 n c R C hpad hsh hbl hod hst hpw hk0 hk1) hP hD hS
set_option maxRecDepth 100000 in
theorem lo_many {p : Program} {l : Launch} {e : Env} {s : State} {m : MethodId} {args : Array Value} {below : List Frame} {meth : Method} {c : Code} {D : va_G} {cI cJ cZ cS : ClassId} (E : Ev p s m args c cL_law 4 RL D cI cJ cZ cS) {b L : Nat} {xs : Nat → Int32} (hX : va_X b L xs s s.heap) (hbl0 : b < s.heap.size) {i : Nat} (hi : i + 3 < L) (hL : L ≤ 2048) {oe_A mo_A : Nat} {ls : Array Slot} (hl : lv_has ls 4 [(0, .ref b), (1, .ref oe_A), (2, .ref mo_A), (3, .int (nI i))]) {ws : va_W} (hs : ST cI cJ cZ cS oe_A mo_A ws) {H : Heap} {locs : List Loc} (hP : va_P D vwCl ws H) (hD : va_D (fun q : Nat => s.heap.size ≤ q) ws) (hS : va_S (fun q : Nat => s.heap.size ≤ q) s.heap H locs) {cells slots : Nat} (hc : cells + 11 ≤ 600000 ∧ slots + 214 ≤ 7302250) {Q : State → Prop} (kk : ∀ (ws' : va_W) (H' : Heap) (locs' : List Loc), ST cI cJ cZ cS oe_A mo_A ws' → va_P D vwCl ws' H' → va_D (fun q : Nat => s.heap.size ≤ q) ws' → va_S (fun q : Nat => s.heap.size ≤ q) s.heap H' locs' → W p l e room_1 s m args below meth c H' locs' (cells + 11) (slots + 214) Q (F0 m 970 ls [])) : W p l e room_1 s m args below meth c H locs cells slots Q (F0 m 670 ls []) := by
  obtain ⟨hx, hb, hml, hown, hts, hG⟩ := id E
  have hA : ∀ q : Nat, s.heap.size ≤ q → (fun q : Nat => s.heap.size ≤ q) q := fun _ h => h
  have hbA : ¬ (fun q : Nat => s.heap.size ≤ q) b := Nat.not_le.mpr hbl0
  have hcs : cells ≤ room_1.cells ∧ slots ≤ room_1.slots := ⟨by show cells ≤ 600000; omega, by show slots ≤ 7302250; omega⟩
  have h_1 : vp_in (nI i + 1) L := by rw [nI_1]; exact vp_in_nI (by omega) (by omega)
  have h_2 : vp_in (nI i + 2) L := by rw [l_2, nI_add]; exact vp_in_nI (by omega) (by omega)
  have h_3 : vp_in (nI i + 3) L := by rw [l_3, nI_add]; exact vp_in_nI (by omega) (by omega)
  revert hP hD
  refine ST_el hs (G := fun ws => va_P D vwCl ws H → va_D (fun q : Nat => s.heap.size ≤ q) ws → W p l e room_1 s m args below meth c H locs cells slots Q (F0 m 670 ls [])) ?_
  intro oe_kept_A oe_standing_A pa_A pa_signs_A sc_A sh_A sh_looks_A sh_openBits_A bl_A bl_settings_A od_A od_quarters_A st_A st_talls_A st_pairs_A hw_A hw_cutsFrom_A hw_chosen_A pw_A pw_leaves_A pw_first_A mo_looks_A mo_period_A mo_shut_A mo_phase_A mo_quarters_A mo_tall_A mo_pairs_A mo_pad_A mo_cuts_A mo_at_A mo_first_A mo_kept_A mo_isKept_A oe_kept oe_standing pa_signs pa_count sc_people sc_bride sh_count sh_hands sh_looks sh_openBits bl_flash bl_settings od_tired od_quarters st_rows st_columns st_rise st_talls st_pairs st_changed hw_cutsFrom hw_chosen pw_leaves pw_first pw_people pw_count mo_people mo_shots mo_looks mo_bride mo_hands mo_period mo_shut mo_phase mo_flash mo_quarters mo_tired mo_rows mo_columns mo_rise mo_tall mo_pairs mo_pad mo_padMany mo_cuts mo_at mo_first mo_kept mo_isKept mo_keptAt mo_isWriting X0 X1 n c R C hpad hsh hbl hod hst hpw hk0 hk1 hP hD
  obtain ⟨N, r, f1, f2⟩ := pu_many hsh hod (xs (nI i + 1).toNatClampNeg) (xs (nI i + 2).toNatClampNeg)
  refine lv_aload_n (pc := 670) hx hb dL_law_670 rfl (lv_at hl 1 rfl) ?_
  refine lv_aload_n (pc := 671) hx hb dL_law_671 rfl (lv_at hl 0 rfl) ?_
  refine lv_iload_n (pc := 672) hx hb dL_law_672 rfl (lv_at hl 3 rfl) ?_
  refine lv_iconst (pc := 673) (v := (1 : Int32)) hx hb dL_law_673 (by decide) ?_
  refine lv_iadd (pc := 674) hx hb dL_law_674 ?_
  refine va_sld (pc := 675) hx hb hX hbl0 hbA hS h_1 dL_law_675 ?_
  refine lv_aload_n (pc := 676) hx hb dL_law_676 rfl (lv_at hl 0 rfl) ?_
  refine lv_iload_n (pc := 677) hx hb dL_law_677 rfl (lv_at hl 3 rfl) ?_
  refine lv_iconst (pc := 678) (v := (2 : Int32)) hx hb dL_law_678 (by decide) ?_
  refine lv_iadd (pc := 679) hx hb dL_law_679 ?_
  refine va_sld (pc := 680) hx hb hX hbl0 hbA hS h_2 dL_law_680 ?_
  refine ro_Vi (pc := 681) (rest := []) E (c_X8_many l D cI cJ cZ cS N oe_A oe_kept_A oe_standing_A pa_A pa_signs_A sc_A sh_A sh_looks_A sh_openBits_A bl_A bl_settings_A od_A od_quarters_A st_A st_talls_A st_pairs_A hw_A hw_cutsFrom_A hw_chosen_A pw_A pw_leaves_A pw_first_A oe_kept oe_standing pa_signs pa_count sc_people sc_bride sh_count sh_hands sh_looks sh_openBits bl_flash bl_settings od_tired od_quarters st_rows st_columns st_rise st_talls st_pairs st_changed hw_cutsFrom hw_chosen pw_leaves pw_first pw_people pw_count (xs (nI i + 1).toNatClampNeg) (xs (nI i + 2).toNatClampNeg) r f1) F_X8_many rfl rfl tw_532 tw_533 tw_534 hP.left ⟨by decide, by decide⟩ rfl hl.1 (Nat.le_of_ble_eq_true rfl) hcs rfl dL_law_681 ?_
  refine lv_aload_n (pc := 684) hx hb dL_law_684 rfl (lv_at hl 2 rfl) ?_
  refine lv_aload_n (pc := 685) hx hb dL_law_685 rfl (lv_at hl 0 rfl) ?_
  refine lv_iload_n (pc := 686) hx hb dL_law_686 rfl (lv_at hl 3 rfl) ?_
  refine lv_iconst (pc := 687) (v := (1 : Int32)) hx hb dL_law_687 (by decide) ?_
  refine lv_iadd (pc := 688) hx hb dL_law_688 ?_
  refine va_sld (pc := 689) hx hb hX hbl0 hbA hS h_1 dL_law_689 ?_
  refine lv_aload_n (pc := 690) hx hb dL_law_690 rfl (lv_at hl 0 rfl) ?_
  refine lv_iload_n (pc := 691) hx hb dL_law_691 rfl (lv_at hl 3 rfl) ?_
  refine lv_iconst (pc := 692) (v := (2 : Int32)) hx hb dL_law_692 (by decide) ?_
  refine lv_iadd (pc := 693) hx hb dL_law_693 ?_
  refine va_sld (pc := 694) hx hb hX hbl0 hbA hS h_2 dL_law_694 ?_
  refine ro_Vi (pc := 695) (rest := [.int r]) E (c_X9_many l D cI cJ cZ cS N mo_A mo_looks_A mo_period_A mo_shut_A mo_phase_A mo_quarters_A mo_tall_A mo_pairs_A mo_pad_A mo_cuts_A mo_at_A mo_first_A mo_kept_A mo_isKept_A mo_people mo_shots mo_looks mo_bride mo_hands mo_period mo_shut mo_phase mo_flash mo_quarters mo_tired mo_rows mo_columns mo_rise mo_tall mo_pairs mo_pad mo_padMany mo_cuts mo_at mo_first mo_kept mo_isKept mo_keptAt mo_isWriting (xs (nI i + 1).toNatClampNeg) (xs (nI i + 2).toNatClampNeg) r f2) F_X9_many rfl rfl tw_960 tw_961 tw_962 hP.right.left ⟨by decide, by decide⟩ rfl hl.1 (Nat.le_of_ble_eq_true rfl) hcs rfl dL_law_695 ?_
  refine lv_icmp_eq (pc := 698) (tgt := 970) hx hb dL_law_698 (by decide) (fun _ => ?_) (fun hne => absurd rfl hne)
  refine W.widen (k := cells + 11) (n := slots + 214) (by omega) (by omega) ?_
  exact kk _ H locs (ST_mk cI cJ cZ cS oe_A mo_A oe_kept_A oe_standing_A pa_A pa_signs_A sc_A sh_A sh_looks_A sh_openBits_A bl_A bl_settings_A od_A od_quarters_A st_A st_talls_A st_pairs_A hw_A hw_cutsFrom_A hw_chosen_A pw_A pw_leaves_A pw_first_A mo_looks_A mo_period_A mo_shut_A mo_phase_A mo_quarters_A mo_tall_A mo_pairs_A mo_pad_A mo_cuts_A mo_at_A mo_first_A mo_kept_A mo_isKept_A oe_kept oe_standing pa_signs pa_count sc_people sc_bride sh_count sh_hands sh_looks sh_openBits bl_flash bl_settings od_tired od_quarters st_rows st_columns st_rise st_talls st_pairs st_changed hw_cutsFrom hw_chosen pw_leaves pw_first pw_people pw_count mo_people mo_shots mo_looks mo_bride mo_hands mo_period mo_shut mo_phase mo_flash mo_quarters mo_tired mo_rows mo_columns mo_rise mo_tall mo_pairs mo_pad mo_padMany mo_cuts mo_at mo_first mo_kept mo_isKept mo_keptAt mo_isWriting X0 X1 n c R C hpad hsh hbl hod hst hpw hk0 hk1) hP hD hS
