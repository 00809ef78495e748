set_option maxRecDepth 100000 in
theorem lo_look {p : Program} {l : Launch} {e : Env} {s : State} {m : MethodId} {args : Array Value} {below : List Frame} {meth : Method} {c : Code} {D : va_G} {cI cJ cZ cS : ClassId} (E : Ev p s m args c cL_law 4 RL D cI cJ cZ cS) {b L : Nat} {xs : Nat → Int32} (hX : va_X b L xs s s.heap) (hbl0 : b < s.heap.size) {i : Nat} (hi : i + 3 < L) (hL : L ≤ 2048) {oe_A mo_A : Nat} {ls : Array Slot} (hl : lv_has ls 4 [(0, .ref b), (1, .ref oe_A), (2, .ref mo_A), (3, .int (nI i))]) {ws : va_W} (hs : ST cI cJ cZ cS oe_A mo_A ws) {H : Heap} {locs : List Loc} (hP : va_P D vwCl ws H) (hD : va_D (fun q : Nat => s.heap.size ≤ q) ws) (hS : va_S (fun q : Nat => s.heap.size ≤ q) s.heap H locs) {cells slots : Nat} (hc : cells + 11 ≤ 600000 ∧ slots + 214 ≤ 7302250) {Q : State → Prop} (kk : ∀ (ws' : va_W) (H' : Heap) (locs' : List Loc), ST cI cJ cZ cS oe_A mo_A ws' → va_P D vwCl ws' H' → va_D (fun q : Nat => s.heap.size ≤ q) ws' → va_S (fun q : Nat => s.heap.size ≤ q) s.heap H' locs' → W p l e room_1 s m args below meth c H' locs' (cells + 11) (slots + 214) Q (F0 m 970 ls [])) : W p l e room_1 s m args below meth c H locs cells slots Q (F0 m 286 ls []) := by
  obtain ⟨hx, hb, hml, hown, hts, hG⟩ := id E
  have hA : ∀ q : Nat, s.heap.size ≤ q → (fun q : Nat => s.heap.size ≤ q) q := fun _ h => h
  have hbA : ¬ (fun q : Nat => s.heap.size ≤ q) b := Nat.not_le.mpr hbl0
  have hcs : cells ≤ room_1.cells ∧ slots ≤ room_1.slots := ⟨by show cells ≤ 600000; omega, by show slots ≤ 7302250; omega⟩
  have h_1 : vp_in (nI i + 1) L := by rw [nI_1]; exact vp_in_nI (by omega) (by omega)
  have h_2 : vp_in (nI i + 2) L := by rw [l_2, nI_add]; exact vp_in_nI (by omega) (by omega)
  have h_3 : vp_in (nI i + 3) L := by rw [l_3, nI_add]; exact vp_in_nI (by omega) (by omega)
  revert hP hD
  refine ST_el hs (G := fun ws => va_P D vwCl ws H → va_D (fun q : Nat => s.heap.size ≤ q) ws → W p l e room_1 s m args below meth c H locs cells slots Q (F0 m 286 ls [])) ?_
  intro oe_kept_A oe_standing_A pa_A pa_signs_A sc_A sh_A sh_looks_A sh_openBits_A bl_A bl_settings_A od_A od_quarters_A st_A st_talls_A st_pairs_A hw_A hw_cutsFrom_A hw_chosen_A pw_A pw_leaves_A pw_first_A mo_looks_A mo_period_A mo_shut_A mo_phase_A mo_quarters_A mo_tall_A mo_pairs_A mo_pad_A mo_cuts_A mo_at_A mo_first_A mo_kept_A mo_isKept_A oe_kept oe_standing pa_signs pa_count sc_people sc_bride sh_count sh_hands sh_looks sh_openBits bl_flash bl_settings od_tired od_quarters st_rows st_columns st_rise st_talls st_pairs st_changed hw_cutsFrom hw_chosen pw_leaves pw_first pw_people pw_count mo_people mo_shots mo_looks mo_bride mo_hands mo_period mo_shut mo_phase mo_flash mo_quarters mo_tired mo_rows mo_columns mo_rise mo_tall mo_pairs mo_pad mo_padMany mo_cuts mo_at mo_first mo_kept mo_isKept mo_keptAt mo_isWriting X0 X1 n c R C hpad hsh hbl hod hst hpw hk0 hk1 hP hD
  obtain ⟨r, f1, f2⟩ := pu_look hsh (xs (nI i + 1).toNatClampNeg) (xs (nI i + 2).toNatClampNeg)
  refine lv_aload_n (pc := 286) hx hb dL_law_286 rfl (lv_at hl 1 rfl) ?_
  refine lv_aload_n (pc := 287) hx hb dL_law_287 rfl (lv_at hl 0 rfl) ?_
  refine lv_iload_n (pc := 288) hx hb dL_law_288 rfl (lv_at hl 3 rfl) ?_
  refine lv_iconst (pc := 289) (v := (1 : Int32)) hx hb dL_law_289 (by decide) ?_
  refine lv_iadd (pc := 290) hx hb dL_law_290 ?_
  refine va_sld (pc := 291) hx hb hX hbl0 hbA hS h_1 dL_law_291 ?_
  refine lv_aload_n (pc := 292) hx hb dL_law_292 rfl (lv_at hl 0 rfl) ?_
  refine lv_iload_n (pc := 293) hx hb dL_law_293 rfl (lv_at hl 3 rfl) ?_
  refine lv_iconst (pc := 294) (v := (2 : Int32)) hx hb dL_law_294 (by decide) ?_
  refine lv_iadd (pc := 295) hx hb dL_law_295 ?_
  refine va_sld (pc := 296) hx hb hX hbl0 hbA hS h_2 dL_law_296 ?_
  refine ro_Vi (pc := 297) (rest := []) E (c_X8_look l D cI cJ cZ cS oe_A oe_kept_A oe_standing_A pa_A pa_signs_A sc_A sh_A sh_looks_A sh_openBits_A bl_A bl_settings_A od_A od_quarters_A st_A st_talls_A st_pairs_A hw_A hw_cutsFrom_A hw_chosen_A pw_A pw_leaves_A pw_first_A oe_kept oe_standing pa_signs pa_count sc_people sc_bride sh_count sh_hands sh_looks sh_openBits bl_flash bl_settings od_tired od_quarters st_rows st_columns st_rise st_talls st_pairs st_changed hw_cutsFrom hw_chosen pw_leaves pw_first pw_people pw_count (xs (nI i + 1).toNatClampNeg) (xs (nI i + 2).toNatClampNeg) r f1) F_X8_look rfl rfl tw_309 tw_310 tw_311 hP.left ⟨by decide, by decide⟩ rfl hl.1 (Nat.le_of_ble_eq_true rfl) hcs rfl dL_law_297 ?_
  refine lv_aload_n (pc := 300) hx hb dL_law_300 rfl (lv_at hl 2 rfl) ?_
  refine lv_aload_n (pc := 301) hx hb dL_law_301 rfl (lv_at hl 0 rfl) ?_
  refine lv_iload_n (pc := 302) hx hb dL_law_302 rfl (lv_at hl 3 rfl) ?_
  refine lv_iconst (pc := 303) (v := (1 : Int32)) hx hb dL_law_303 (by decide) ?_
  refine lv_iadd (pc := 304) hx hb dL_law_304 ?_
  refine va_sld (pc := 305) hx hb hX hbl0 hbA hS h_1 dL_law_305 ?_
  refine lv_aload_n (pc := 306) hx hb dL_law_306 rfl (lv_at hl 0 rfl) ?_
  refine lv_iload_n (pc := 307) hx hb dL_law_307 rfl (lv_at hl 3 rfl) ?_
  refine lv_iconst (pc := 308) (v := (2 : Int32)) hx hb dL_law_308 (by decide) ?_
  refine lv_iadd (pc := 309) hx hb dL_law_309 ?_
  refine va_sld (pc := 310) hx hb hX hbl0 hbA hS h_2 dL_law_310 ?_
  refine ro_Vi (pc := 311) (rest := [.int r]) E (c_X9_look l D cI cJ cZ cS mo_A mo_looks_A mo_period_A mo_shut_A mo_phase_A mo_quarters_A mo_tall_A mo_pairs_A mo_pad_A mo_cuts_A mo_at_A mo_first_A mo_kept_A mo_isKept_A mo_people mo_shots mo_looks mo_bride mo_hands mo_period mo_shut mo_phase mo_flash mo_quarters mo_tired mo_rows mo_columns mo_rise mo_tall mo_pairs mo_pad mo_padMany mo_cuts mo_at mo_first mo_kept mo_isKept mo_keptAt mo_isWriting (xs (nI i + 1).toNatClampNeg) (xs (nI i + 2).toNatClampNeg) r f2) F_X9_look rfl rfl tw_837 tw_838 tw_839 hP.right.left ⟨by decide, by decide⟩ rfl hl.1 (Nat.le_of_ble_eq_true rfl) hcs rfl dL_law_311 ?_
  refine lv_icmp_eq (pc := 314) (tgt := 970) hx hb dL_law_314 (by decide) (fun _ => ?_) (fun hne => absurd rfl hne)
  refine W.widen (k := cells + 11) (n := slots + 214) (by omega) (by omega) ?_
  exact kk _ H locs (ST_mk cI cJ cZ cS oe_A mo_A oe_kept_A oe_standing_A pa_A pa_signs_A sc_A sh_A sh_looks_A sh_openBits_A bl_A bl_settings_A od_A od_quarters_A st_A st_talls_A st_pairs_A hw_A hw_cutsFrom_A hw_chosen_A pw_A pw_leaves_A pw_first_A mo_looks_A mo_period_A mo_shut_A mo_phase_A mo_quarters_A mo_tall_A mo_pairs_A mo_pad_A mo_cuts_A mo_at_A mo_first_A mo_kept_A mo_isKept_A oe_kept oe_standing pa_signs pa_count sc_people sc_bride sh_count sh_hands sh_looks sh_openBits bl_flash bl_settings od_tired od_quarters st_rows st_columns st_rise st_talls st_pairs st_changed hw_cutsFrom hw_chosen pw_leaves pw_first pw_people pw_count mo_people mo_shots mo_looks mo_bride mo_hands mo_period mo_shut mo_phase mo_flash mo_quarters mo_tired mo_rows mo_columns mo_rise mo_tall mo_pairs mo_pad mo_padMany mo_cuts mo_at mo_first mo_kept mo_isKept mo_keptAt mo_isWriting X0 X1 n c R C hpad hsh hbl hod hst hpw hk0 hk1) hP hD hS
