set_option maxRecDepth 100000 in
theorem lo_restore {p : Program} {l : Launch} {e : Env} {s : State} {m : MethodId} {args : Array Value} {below : List Frame} {meth : Method} {c : Code} {D : va_G} {cI cJ cZ cS : ClassId} (E : Ev p s m args c cL_law 4 RL D cI cJ cZ cS) {b L : Nat} {xs : Nat → Int32} (hX : va_X b L xs s s.heap) (hbl0 : b < s.heap.size) {i : Nat} (hi : i + 3 < L) (hL : L ≤ 2048) {oe_A mo_A : Nat} {ls : Array Slot} (hl : lv_has ls 4 [(0, .ref b), (1, .ref oe_A), (2, .ref mo_A), (3, .int (nI i))]) {ws : va_W} (hs : ST cI cJ cZ cS oe_A mo_A ws) {H : Heap} {locs : List Loc} (hP : va_P D vwCl ws H) (hD : va_D (fun q : Nat => s.heap.size ≤ q) ws) (hS : va_S (fun q : Nat => s.heap.size ≤ q) s.heap H locs) {cells slots : Nat} (hc : cells + 11 ≤ 600000 ∧ slots + 214 ≤ 7302250) {Q : State → Prop} (kk : ∀ (ws' : va_W) (H' : Heap) (locs' : List Loc), ST cI cJ cZ cS oe_A mo_A ws' → va_P D vwCl ws' H' → va_D (fun q : Nat => s.heap.size ≤ q) ws' → va_S (fun q : Nat => s.heap.size ≤ q) s.heap H' locs' → W p l e room_1 s m args below meth c H' locs' (cells + 11) (slots + 214) Q (F0 m 970 ls [])) : W p l e room_1 s m args below meth c H locs cells slots Q (F0 m 924 ls []) := by
  obtain ⟨hx, hb, hml, hown, hts, hG⟩ := id E
  have hA : ∀ q : Nat, s.heap.size ≤ q → (fun q : Nat => s.heap.size ≤ q) q := fun _ h => h
  have hbA : ¬ (fun q : Nat => s.heap.size ≤ q) b := Nat.not_le.mpr hbl0
  have hcs : cells ≤ room_1.cells ∧ slots ≤ room_1.slots := ⟨by show cells ≤ 600000; omega, by show slots ≤ 7302250; omega⟩
  have h_1 : vp_in (nI i + 1) L := by rw [nI_1]; exact vp_in_nI (by omega) (by omega)
  have h_2 : vp_in (nI i + 2) L := by rw [l_2, nI_add]; exact vp_in_nI (by omega) (by omega)
  have h_3 : vp_in (nI i + 3) L := by rw [l_3, nI_add]; exact vp_in_nI (by omega) (by omega)
  revert hP hD
  refine ST_el hs (G := fun ws => va_P D vwCl ws H → va_D (fun q : Nat => s.heap.size ≤ q) ws → W p l e room_1 s m args below meth c H locs cells slots Q (F0 m 924 ls [])) ?_
  intro oe_kept_A oe_standing_A pa_A pa_signs_A sc_A sh_A sh_looks_A sh_openBits_A bl_A bl_settings_A od_A od_quarters_A st_A st_talls_A st_pairs_A hw_A hw_cutsFrom_A hw_chosen_A pw_A pw_leaves_A pw_first_A mo_looks_A mo_period_A mo_shut_A mo_phase_A mo_quarters_A mo_tall_A mo_pairs_A mo_pad_A mo_cuts_A mo_at_A mo_first_A mo_kept_A mo_isKept_A oe_kept oe_standing pa_signs pa_count sc_people sc_bride sh_count sh_hands sh_looks sh_openBits bl_flash bl_settings od_tired od_quarters st_rows st_columns st_rise st_talls st_pairs st_changed hw_cutsFrom hw_chosen pw_leaves pw_first pw_people pw_count mo_people mo_shots mo_looks mo_bride mo_hands mo_period mo_shut mo_phase mo_flash mo_quarters mo_tired mo_rows mo_columns mo_rise mo_tall mo_pairs mo_pad mo_padMany mo_cuts mo_at mo_first mo_kept mo_isKept mo_keptAt mo_isWriting X0 X1 n c R C hpad hsh hbl hod hst hpw hk0 hk1 hP hD
  obtain ⟨p1, hp1⟩ : ∃ y : Int32, y = xs (nI i + 1).toNatClampNeg := ⟨_, rfl⟩
  refine lv_aload_n (pc := 924) hx hb dL_law_924 rfl (lv_at hl 1 rfl) ?_
  refine lv_aload_n (pc := 925) hx hb dL_law_925 rfl (lv_at hl 0 rfl) ?_
  refine lv_iload_n (pc := 926) hx hb dL_law_926 rfl (lv_at hl 3 rfl) ?_
  refine lv_iconst (pc := 927) (v := (1 : Int32)) hx hb dL_law_927 (by decide) ?_
  refine lv_iadd (pc := 928) hx hb dL_law_928 ?_
  refine va_sld (pc := 929) hx hb hX hbl0 hbA hS h_1 dL_law_929 ?_
  rw [← hp1]
  by_cases hin : (0 : Int32) ≤ p1 ∧ p1 ≤ 1
  · obtain ⟨j, -, hj, rfl⟩ := rg_of (a := 0) (b := 1) (by omega) (by omega) hin
    rcases (show j = 0 ∨ j = 1 by omega) with rfl | rfl
    · rcases id hk0 with ⟨e1, e2, -⟩ | ⟨e2, sc2_A, sh2_A, sh2_looks_A, sh2_openBits_A, bl2_A, bl2_settings_A, od2_A, od2_quarters_A, st2_A, st2_talls_A, st2_pairs_A, sc2_people, sc2_bride, sh2_count, sh2_hands, sh2_looks, sh2_openBits, bl2_flash, bl2_settings, od2_tired, od2_quarters, st2_rows, st2_columns, st2_rise, st2_talls, st2_pairs, st2_changed, e1, rfl, e3⟩
      · have f1 : f_X8_restore_none oe_kept (nI 0) = some (-3) := by
          unfold f_X8_restore_none
          rw [within_eq, bd_some, if_pos hin, if_neg (show ¬ (1 : Int32) = 0 by decide), ld_n (by omega) (by omega), bd_some]
        refine ro_Vi (pc := 930) (rest := []) E (c_X8_restore_none l D cI cJ cZ cS oe_A oe_kept_A oe_standing_A pa_A pa_signs_A sc_A sh_A sh_looks_A sh_openBits_A bl_A bl_settings_A od_A od_quarters_A st_A st_talls_A st_pairs_A hw_A hw_cutsFrom_A hw_chosen_A pw_A pw_leaves_A pw_first_A oe_kept oe_standing pa_signs pa_count sc_people sc_bride sh_count sh_hands sh_looks sh_openBits bl_flash bl_settings od_tired od_quarters st_rows st_columns st_rise st_talls st_pairs st_changed hw_cutsFrom hw_chosen pw_leaves pw_first pw_people pw_count (nI 0) (-3) e1 f1) F_X8_restore rfl rfl tw_685 tw_686 tw_687 hP.left ⟨by decide, by decide⟩ rfl hl.1 (Nat.le_of_ble_eq_true rfl) hcs rfl dL_law_930 ?_
        refine lv_aload_n (pc := 933) hx hb dL_law_933 rfl (lv_at hl 2 rfl) ?_
        refine lv_aload_n (pc := 934) hx hb dL_law_934 rfl (lv_at hl 0 rfl) ?_
        refine lv_iload_n (pc := 935) hx hb dL_law_935 rfl (lv_at hl 3 rfl) ?_
        refine lv_iconst (pc := 936) (v := (1 : Int32)) hx hb dL_law_936 (by decide) ?_
        refine lv_iadd (pc := 937) hx hb dL_law_937 ?_
        refine va_sld (pc := 938) hx hb hX hbl0 hbA hS h_1 dL_law_938 ?_
        rw [← hp1]
        have hP := hP.perm (rot _ _ _)
        have hD := hD.perm (rot _ _ _)
        refine rwA (pc := 939) (rest := [.int (-3)]) E (c_X9_restore l D cI cJ cZ cS 1 mo_A mo_looks_A mo_period_A mo_shut_A mo_phase_A mo_quarters_A mo_tall_A mo_pairs_A mo_pad_A mo_cuts_A mo_at_A mo_first_A mo_kept_A mo_isKept_A mo_people mo_shots mo_looks mo_bride mo_hands mo_period mo_shut mo_phase mo_flash mo_quarters mo_tired mo_rows mo_columns mo_rise mo_tall mo_pairs mo_pad mo_padMany mo_cuts mo_at mo_first mo_kept mo_isKept mo_keptAt mo_isWriting (nI 0) H.size (-3) mo_people mo_shots mo_bride mo_hands mo_flash mo_tired mo_rows mo_columns mo_rise mo_keptAt mo_isWriting mo_looks mo_period mo_shut mo_phase mo_quarters mo_tall mo_pairs mo_kept (by unfold f_X9_restore; rw [in_eq2 (a := 0) (b := 1) (by decide) (by decide), bd_some, if_pos hin, if_neg (show ¬ (1 : Int32) = 0 by decide), ld_n (by omega) (by omega), bd_some, e2, if_pos rfl])) F_X9_restore rfl rfl tw_1032 tw_1033 tw_1034 hP hD hS hA ⟨by decide, by decide⟩ rfl hl.1 (Nat.le_of_ble_eq_true rfl) hcs rfl dL_law_939 (fun H locs hP hD hS => ?_)
        have hP := hP.perm (rot _ _ _)
        have hD := hD.perm (rot _ _ _)
        refine lv_icmp_eq (pc := 942) (tgt := 970) hx hb dL_law_942 (by decide) (fun _ => ?_) (fun hne => absurd rfl hne)
        refine W.widen (k := cells + 11) (n := slots + 214) (by omega) (by omega) ?_
        exact kk _ H locs (ST_mk cI cJ cZ cS oe_A mo_A oe_kept_A oe_standing_A pa_A pa_signs_A sc_A sh_A sh_looks_A sh_openBits_A bl_A bl_settings_A od_A od_quarters_A st_A st_talls_A st_pairs_A hw_A hw_cutsFrom_A hw_chosen_A pw_A pw_leaves_A pw_first_A mo_looks_A mo_period_A mo_shut_A mo_phase_A mo_quarters_A mo_tall_A mo_pairs_A mo_pad_A mo_cuts_A mo_at_A mo_first_A mo_kept_A mo_isKept_A oe_kept oe_standing pa_signs pa_count sc_people sc_bride sh_count sh_hands sh_looks sh_openBits bl_flash bl_settings od_tired od_quarters st_rows st_columns st_rise st_talls st_pairs st_changed hw_cutsFrom hw_chosen pw_leaves pw_first pw_people pw_count mo_people mo_shots mo_looks mo_bride mo_hands mo_period mo_shut mo_phase mo_flash mo_quarters mo_tired mo_rows mo_columns mo_rise mo_tall mo_pairs mo_pad mo_padMany mo_cuts mo_at mo_first mo_kept mo_isKept mo_keptAt mo_isWriting X0 X1 n c R C hpad hsh hbl hod hst hpw hk0 hk1) hP hD hS
      · have hP := hP.perm ((rot _ _ _).append_left _)
        have hD := hD.perm ((rot _ _ _).append_left _)
        refine lc_restore E (i := 0) (by omega) e1 hl.1 hP hD hS hc (fun H locs hP hD hS => ?_)
        have hP := hP.perm ((rot _ _ _).append_left _)
        have hD := hD.perm ((rot _ _ _).append_left _)
        obtain ⟨N, r_mo_people, r_mo_shots, r_mo_bride, r_mo_hands, r_mo_flash, r_mo_tired, r_mo_rows, r_mo_columns, r_mo_rise, r_mo_keptAt, r_mo_looks, r_mo_period, r_mo_shut, r_mo_phase, r_mo_quarters, r_mo_tall, r_mo_pairs, r_mo_kept, n, c, R, C, f2, k1, ⟨hsh, hbl, hod, hst⟩⟩ := mrestore_n (i := 0) (by omega) e2 e3 mo_people mo_shots mo_looks mo_bride mo_hands mo_period mo_shut mo_phase mo_flash mo_quarters mo_tired mo_rows mo_columns mo_rise mo_tall mo_pairs mo_keptAt mo_isWriting sh_looks sh_openBits bl_settings od_quarters st_talls st_pairs
        obtain rfl : r_mo_kept = mo_kept := funext k1
        refine lv_aload_n (pc := 933) hx hb dL_law_933 rfl (lv_at hl 2 rfl) ?_
        refine lv_aload_n (pc := 934) hx hb dL_law_934 rfl (lv_at hl 0 rfl) ?_
        refine lv_iload_n (pc := 935) hx hb dL_law_935 rfl (lv_at hl 3 rfl) ?_
        refine lv_iconst (pc := 936) (v := (1 : Int32)) hx hb dL_law_936 (by decide) ?_
        refine lv_iadd (pc := 937) hx hb dL_law_937 ?_
        refine va_sld (pc := 938) hx hb hX hbl0 hbA hS h_1 dL_law_938 ?_
        rw [← hp1]
        have hP := hP.perm (rot _ _ _)
        have hD := hD.perm (rot _ _ _)
        refine rwA (pc := 939) (rest := [.int 1]) E (c_X9_restore l D cI cJ cZ cS N mo_A mo_looks_A mo_period_A mo_shut_A mo_phase_A mo_quarters_A mo_tall_A mo_pairs_A mo_pad_A mo_cuts_A mo_at_A mo_first_A mo_kept_A mo_isKept_A mo_people mo_shots mo_looks mo_bride mo_hands mo_period mo_shut mo_phase mo_flash mo_quarters mo_tired mo_rows mo_columns mo_rise mo_tall mo_pairs mo_pad mo_padMany mo_cuts mo_at mo_first r_mo_kept mo_isKept mo_keptAt mo_isWriting (nI 0) H.size 1 r_mo_people r_mo_shots r_mo_bride r_mo_hands r_mo_flash r_mo_tired r_mo_rows r_mo_columns r_mo_rise r_mo_keptAt 0 r_mo_looks r_mo_period r_mo_shut r_mo_phase r_mo_quarters r_mo_tall r_mo_pairs r_mo_kept f2) F_X9_restore rfl rfl tw_1032 tw_1033 tw_1034 hP hD hS hA ⟨by decide, by decide⟩ rfl hl.1 (Nat.le_of_ble_eq_true rfl) hcs rfl dL_law_939 (fun H locs hP hD hS => ?_)
        have hP := hP.perm (rot _ _ _)
        have hD := hD.perm (rot _ _ _)
        refine lv_icmp_eq (pc := 942) (tgt := 970) hx hb dL_law_942 (by decide) (fun _ => ?_) (fun hne => absurd rfl hne)
        refine W.widen (k := cells + 11) (n := slots + 214) (by omega) (by omega) ?_
        have hpw : R_pw n R C r_mo_rise r_mo_tall r_mo_pairs 1 pw_count pw_first := Or.inl rfl
        exact kk _ H locs (ST_mk cI cJ cZ cS oe_A mo_A oe_kept_A oe_standing_A pa_A pa_signs_A sc_A sh_A sh_looks_A sh_openBits_A bl_A bl_settings_A od_A od_quarters_A st_A st_talls_A st_pairs_A hw_A hw_cutsFrom_A hw_chosen_A pw_A pw_leaves_A pw_first_A mo_looks_A mo_period_A mo_shut_A mo_phase_A mo_quarters_A mo_tall_A mo_pairs_A mo_pad_A mo_cuts_A mo_at_A mo_first_A mo_kept_A mo_isKept_A oe_kept oe_standing pa_signs pa_count sc2_people sc2_bride sh2_count sh2_hands (va_cpy sh2_looks sh_looks 0 0 80) (va_cpy sh2_openBits sh_openBits 0 0 10) bl2_flash (va_cpy bl2_settings bl_settings 0 0 24) od2_tired (va_cpy od2_quarters od_quarters 0 0 8) st2_rows st2_columns st2_rise (va_cpy st2_talls st_talls 0 0 8) (va_cpy st2_pairs st_pairs 0 0 64) 1 hw_cutsFrom hw_chosen pw_leaves pw_first pw_people pw_count r_mo_people r_mo_shots r_mo_looks r_mo_bride r_mo_hands r_mo_period r_mo_shut r_mo_phase r_mo_flash r_mo_quarters r_mo_tired r_mo_rows r_mo_columns r_mo_rise r_mo_tall r_mo_pairs mo_pad mo_padMany mo_cuts mo_at mo_first r_mo_kept mo_isKept r_mo_keptAt 0 (w_SC cI cJ cZ cS sc2_A sh2_A sh2_looks_A sh2_openBits_A bl2_A bl2_settings_A od2_A od2_quarters_A st2_A st2_talls_A st2_pairs_A sc2_people sc2_bride sh2_count sh2_hands sh2_looks sh2_openBits bl2_flash bl2_settings od2_tired od2_quarters st2_rows st2_columns st2_rise st2_talls st2_pairs st2_changed) X1 n c R C hpad hsh hbl hod hst hpw hk0 hk1) hP hD hS
    · rcases id hk1 with ⟨e1, e2, -⟩ | ⟨e2, sc2_A, sh2_A, sh2_looks_A, sh2_openBits_A, bl2_A, bl2_settings_A, od2_A, od2_quarters_A, st2_A, st2_talls_A, st2_pairs_A, sc2_people, sc2_bride, sh2_count, sh2_hands, sh2_looks, sh2_openBits, bl2_flash, bl2_settings, od2_tired, od2_quarters, st2_rows, st2_columns, st2_rise, st2_talls, st2_pairs, st2_changed, e1, rfl, e3⟩
      · have f1 : f_X8_restore_none oe_kept (nI 1) = some (-3) := by
          unfold f_X8_restore_none
          rw [within_eq, bd_some, if_pos hin, if_neg (show ¬ (1 : Int32) = 0 by decide), ld_n (by omega) (by omega), bd_some]
        refine ro_Vi (pc := 930) (rest := []) E (c_X8_restore_none l D cI cJ cZ cS oe_A oe_kept_A oe_standing_A pa_A pa_signs_A sc_A sh_A sh_looks_A sh_openBits_A bl_A bl_settings_A od_A od_quarters_A st_A st_talls_A st_pairs_A hw_A hw_cutsFrom_A hw_chosen_A pw_A pw_leaves_A pw_first_A oe_kept oe_standing pa_signs pa_count sc_people sc_bride sh_count sh_hands sh_looks sh_openBits bl_flash bl_settings od_tired od_quarters st_rows st_columns st_rise st_talls st_pairs st_changed hw_cutsFrom hw_chosen pw_leaves pw_first pw_people pw_count (nI 1) (-3) e1 f1) F_X8_restore rfl rfl tw_685 tw_686 tw_687 hP.left ⟨by decide, by decide⟩ rfl hl.1 (Nat.le_of_ble_eq_true rfl) hcs rfl dL_law_930 ?_
        refine lv_aload_n (pc := 933) hx hb dL_law_933 rfl (lv_at hl 2 rfl) ?_
        refine lv_aload_n (pc := 934) hx hb dL_law_934 rfl (lv_at hl 0 rfl) ?_
        refine lv_iload_n (pc := 935) hx hb dL_law_935 rfl (lv_at hl 3 rfl) ?_
        refine lv_iconst (pc := 936) (v := (1 : Int32)) hx hb dL_law_936 (by decide) ?_
        refine lv_iadd (pc := 937) hx hb dL_law_937 ?_
        refine va_sld (pc := 938) hx hb hX hbl0 hbA hS h_1 dL_law_938 ?_
        rw [← hp1]
        have hP := hP.perm (rot _ _ _)
        have hD := hD.perm (rot _ _ _)
        refine rwA (pc := 939) (rest := [.int (-3)]) E (c_X9_restore l D cI cJ cZ cS 1 mo_A mo_looks_A mo_period_A mo_shut_A mo_phase_A mo_quarters_A mo_tall_A mo_pairs_A mo_pad_A mo_cuts_A mo_at_A mo_first_A mo_kept_A mo_isKept_A mo_people mo_shots mo_looks mo_bride mo_hands mo_period mo_shut mo_phase mo_flash mo_quarters mo_tired mo_rows mo_columns mo_rise mo_tall mo_pairs mo_pad mo_padMany mo_cuts mo_at mo_first mo_kept mo_isKept mo_keptAt mo_isWriting (nI 1) H.size (-3) mo_people mo_shots mo_bride mo_hands mo_flash mo_tired mo_rows mo_columns mo_rise mo_keptAt mo_isWriting mo_looks mo_period mo_shut mo_phase mo_quarters mo_tall mo_pairs mo_kept (by unfold f_X9_restore; rw [in_eq2 (a := 0) (b := 1) (by decide) (by decide), bd_some, if_pos hin, if_neg (show ¬ (1 : Int32) = 0 by decide), ld_n (by omega) (by omega), bd_some, e2, if_pos rfl])) F_X9_restore rfl rfl tw_1032 tw_1033 tw_1034 hP hD hS hA ⟨by decide, by decide⟩ rfl hl.1 (Nat.le_of_ble_eq_true rfl) hcs rfl dL_law_939 (fun H locs hP hD hS => ?_)
        have hP := hP.perm (rot _ _ _)
        have hD := hD.perm (rot _ _ _)
        refine lv_icmp_eq (pc := 942) (tgt := 970) hx hb dL_law_942 (by decide) (fun _ => ?_) (fun hne => absurd rfl hne)
        refine W.widen (k := cells + 11) (n := slots + 214) (by omega) (by omega) ?_
        exact kk _ H locs (ST_mk cI cJ cZ cS oe_A mo_A oe_kept_A oe_standing_A pa_A pa_signs_A sc_A sh_A sh_looks_A sh_openBits_A bl_A bl_settings_A od_A od_quarters_A st_A st_talls_A st_pairs_A hw_A hw_cutsFrom_A hw_chosen_A pw_A pw_leaves_A pw_first_A mo_looks_A mo_period_A mo_shut_A mo_phase_A mo_quarters_A mo_tall_A mo_pairs_A mo_pad_A mo_cuts_A mo_at_A mo_first_A mo_kept_A mo_isKept_A oe_kept oe_standing pa_signs pa_count sc_people sc_bride sh_count sh_hands sh_looks sh_openBits bl_flash bl_settings od_tired od_quarters st_rows st_columns st_rise st_talls st_pairs st_changed hw_cutsFrom hw_chosen pw_leaves pw_first pw_people pw_count mo_people mo_shots mo_looks mo_bride mo_hands mo_period mo_shut mo_phase mo_flash mo_quarters mo_tired mo_rows mo_columns mo_rise mo_tall mo_pairs mo_pad mo_padMany mo_cuts mo_at mo_first mo_kept mo_isKept mo_keptAt mo_isWriting X0 X1 n c R C hpad hsh hbl hod hst hpw hk0 hk1) hP hD hS
      · have hP := hP.perm ((((List.perm_append_comm (l₁ := X0) (l₂ := w_SC cI cJ cZ cS sc2_A sh2_A sh2_looks_A sh2_openBits_A bl2_A bl2_settings_A od2_A od2_quarters_A st2_A st2_talls_A st2_pairs_A sc2_people sc2_bride sh2_count sh2_hands sh2_looks sh2_openBits bl2_flash bl2_settings od2_tired od2_quarters st2_rows st2_columns st2_rise st2_talls st2_pairs st2_changed)).append_left _).trans (rot _ _ _)).append_left _)
        have hD := hD.perm ((((List.perm_append_comm (l₁ := X0) (l₂ := w_SC cI cJ cZ cS sc2_A sh2_A sh2_looks_A sh2_openBits_A bl2_A bl2_settings_A od2_A od2_quarters_A st2_A st2_talls_A st2_pairs_A sc2_people sc2_bride sh2_count sh2_hands sh2_looks sh2_openBits bl2_flash bl2_settings od2_tired od2_quarters st2_rows st2_columns st2_rise st2_talls st2_pairs st2_changed)).append_left _).trans (rot _ _ _)).append_left _)
        refine lc_restore E (i := 1) (by omega) e1 hl.1 hP hD hS hc (fun H locs hP hD hS => ?_)
        have hP := hP.perm (((rot _ _ _).trans (List.perm_append_comm.append_left _)).append_left _)
        have hD := hD.perm (((rot _ _ _).trans (List.perm_append_comm.append_left _)).append_left _)
        obtain ⟨N, r_mo_people, r_mo_shots, r_mo_bride, r_mo_hands, r_mo_flash, r_mo_tired, r_mo_rows, r_mo_columns, r_mo_rise, r_mo_keptAt, r_mo_looks, r_mo_period, r_mo_shut, r_mo_phase, r_mo_quarters, r_mo_tall, r_mo_pairs, r_mo_kept, n, c, R, C, f2, k1, ⟨hsh, hbl, hod, hst⟩⟩ := mrestore_n (i := 1) (by omega) e2 e3 mo_people mo_shots mo_looks mo_bride mo_hands mo_period mo_shut mo_phase mo_flash mo_quarters mo_tired mo_rows mo_columns mo_rise mo_tall mo_pairs mo_keptAt mo_isWriting sh_looks sh_openBits bl_settings od_quarters st_talls st_pairs
        obtain rfl : r_mo_kept = mo_kept := funext k1
        refine lv_aload_n (pc := 933) hx hb dL_law_933 rfl (lv_at hl 2 rfl) ?_
        refine lv_aload_n (pc := 934) hx hb dL_law_934 rfl (lv_at hl 0 rfl) ?_
        refine lv_iload_n (pc := 935) hx hb dL_law_935 rfl (lv_at hl 3 rfl) ?_
        refine lv_iconst (pc := 936) (v := (1 : Int32)) hx hb dL_law_936 (by decide) ?_
        refine lv_iadd (pc := 937) hx hb dL_law_937 ?_
        refine va_sld (pc := 938) hx hb hX hbl0 hbA hS h_1 dL_law_938 ?_
        rw [← hp1]
        have hP := hP.perm (rot _ _ _)
        have hD := hD.perm (rot _ _ _)
        refine rwA (pc := 939) (rest := [.int 1]) E (c_X9_restore l D cI cJ cZ cS N mo_A mo_looks_A mo_period_A mo_shut_A mo_phase_A mo_quarters_A mo_tall_A mo_pairs_A mo_pad_A mo_cuts_A mo_at_A mo_first_A mo_kept_A mo_isKept_A mo_people mo_shots mo_looks mo_bride mo_hands mo_period mo_shut mo_phase mo_flash mo_quarters mo_tired mo_rows mo_columns mo_rise mo_tall mo_pairs mo_pad mo_padMany mo_cuts mo_at mo_first r_mo_kept mo_isKept mo_keptAt mo_isWriting (nI 1) H.size 1 r_mo_people r_mo_shots r_mo_bride r_mo_hands r_mo_flash r_mo_tired r_mo_rows r_mo_columns r_mo_rise r_mo_keptAt 0 r_mo_looks r_mo_period r_mo_shut r_mo_phase r_mo_quarters r_mo_tall r_mo_pairs r_mo_kept f2) F_X9_restore rfl rfl tw_1032 tw_1033 tw_1034 hP hD hS hA ⟨by decide, by decide⟩ rfl hl.1 (Nat.le_of_ble_eq_true rfl) hcs rfl dL_law_939 (fun H locs hP hD hS => ?_)
        have hP := hP.perm (rot _ _ _)
        have hD := hD.perm (rot _ _ _)
        refine lv_icmp_eq (pc := 942) (tgt := 970) hx hb dL_law_942 (by decide) (fun _ => ?_) (fun hne => absurd rfl hne)
        refine W.widen (k := cells + 11) (n := slots + 214) (by omega) (by omega) ?_
        have hpw : R_pw n R C r_mo_rise r_mo_tall r_mo_pairs 1 pw_count pw_first := Or.inl rfl
        exact kk _ H locs (ST_mk cI cJ cZ cS oe_A mo_A oe_kept_A oe_standing_A pa_A pa_signs_A sc_A sh_A sh_looks_A sh_openBits_A bl_A bl_settings_A od_A od_quarters_A st_A st_talls_A st_pairs_A hw_A hw_cutsFrom_A hw_chosen_A pw_A pw_leaves_A pw_first_A mo_looks_A mo_period_A mo_shut_A mo_phase_A mo_quarters_A mo_tall_A mo_pairs_A mo_pad_A mo_cuts_A mo_at_A mo_first_A mo_kept_A mo_isKept_A oe_kept oe_standing pa_signs pa_count sc2_people sc2_bride sh2_count sh2_hands (va_cpy sh2_looks sh_looks 0 0 80) (va_cpy sh2_openBits sh_openBits 0 0 10) bl2_flash (va_cpy bl2_settings bl_settings 0 0 24) od2_tired (va_cpy od2_quarters od_quarters 0 0 8) st2_rows st2_columns st2_rise (va_cpy st2_talls st_talls 0 0 8) (va_cpy st2_pairs st_pairs 0 0 64) 1 hw_cutsFrom hw_chosen pw_leaves pw_first pw_people pw_count r_mo_people r_mo_shots r_mo_looks r_mo_bride r_mo_hands r_mo_period r_mo_shut r_mo_phase r_mo_flash r_mo_quarters r_mo_tired r_mo_rows r_mo_columns r_mo_rise r_mo_tall r_mo_pairs mo_pad mo_padMany mo_cuts mo_at mo_first r_mo_kept mo_isKept r_mo_keptAt 0 X0 (w_SC cI cJ cZ cS sc2_A sh2_A sh2_looks_A sh2_openBits_A bl2_A bl2_settings_A od2_A od2_quarters_A st2_A st2_talls_A st2_pairs_A sc2_people sc2_bride sh2_count sh2_hands sh2_looks sh2_openBits bl2_flash bl2_settings od2_tired od2_quarters st2_rows st2_columns st2_rise st2_talls st2_pairs st2_changed) n c R C hpad hsh hbl hod hst hpw hk0 hk1) hP hD hS
  · have f1 : f_X8_restore_out p1 = some (-2) := by
      unfold f_X8_restore_out
      rw [within_eq, bd_some, if_neg hin, if_pos rfl]
    refine ro_Vi (pc := 930) (rest := []) E (c_X8_restore_out l D cI cJ cZ cS oe_A oe_kept_A oe_standing_A pa_A pa_signs_A sc_A sh_A sh_looks_A sh_openBits_A bl_A bl_settings_A od_A od_quarters_A st_A st_talls_A st_pairs_A hw_A hw_cutsFrom_A hw_chosen_A pw_A pw_leaves_A pw_first_A oe_kept oe_standing pa_signs pa_count sc_people sc_bride sh_count sh_hands sh_looks sh_openBits bl_flash bl_settings od_tired od_quarters st_rows st_columns st_rise st_talls st_pairs st_changed hw_cutsFrom hw_chosen pw_leaves pw_first pw_people pw_count p1 (-2) f1) F_X8_restore rfl rfl tw_685 tw_686 tw_687 hP.left ⟨by decide, by decide⟩ rfl hl.1 (Nat.le_of_ble_eq_true rfl) hcs rfl dL_law_930 ?_
    refine lv_aload_n (pc := 933) hx hb dL_law_933 rfl (lv_at hl 2 rfl) ?_
    refine lv_aload_n (pc := 934) hx hb dL_law_934 rfl (lv_at hl 0 rfl) ?_
    refine lv_iload_n (pc := 935) hx hb dL_law_935 rfl (lv_at hl 3 rfl) ?_
    refine lv_iconst (pc := 936) (v := (1 : Int32)) hx hb dL_law_936 (by decide) ?_
    refine lv_iadd (pc := 937) hx hb dL_law_937 ?_
    refine va_sld (pc := 938) hx hb hX hbl0 hbA hS h_1 dL_law_938 ?_
    rw [← hp1]
    have hP := hP.perm (rot _ _ _)
    have hD := hD.perm (rot _ _ _)
    refine rwA (pc := 939) (rest := [.int (-2)]) E (c_X9_restore l D cI cJ cZ cS 1 mo_A mo_looks_A mo_period_A mo_shut_A mo_phase_A mo_quarters_A mo_tall_A mo_pairs_A mo_pad_A mo_cuts_A mo_at_A mo_first_A mo_kept_A mo_isKept_A mo_people mo_shots mo_looks mo_bride mo_hands mo_period mo_shut mo_phase mo_flash mo_quarters mo_tired mo_rows mo_columns mo_rise mo_tall mo_pairs mo_pad mo_padMany mo_cuts mo_at mo_first mo_kept mo_isKept mo_keptAt mo_isWriting p1 H.size (-2) mo_people mo_shots mo_bride mo_hands mo_flash mo_tired mo_rows mo_columns mo_rise mo_keptAt mo_isWriting mo_looks mo_period mo_shut mo_phase mo_quarters mo_tall mo_pairs mo_kept (by unfold f_X9_restore; rw [in_eq2 (a := 0) (b := 1) (by decide) (by decide), bd_some, if_neg hin, if_pos rfl])) F_X9_restore rfl rfl tw_1032 tw_1033 tw_1034 hP hD hS hA ⟨by decide, by decide⟩ rfl hl.1 (Nat.le_of_ble_eq_true rfl) hcs rfl dL_law_939 (fun H locs hP hD hS => ?_)
    have hP := hP.perm (rot _ _ _)
    have hD := hD.perm (rot _ _ _)
    refine lv_icmp_eq (pc := 942) (tgt := 970) hx hb dL_law_942 (by decide) (fun _ => ?_) (fun hne => absurd rfl hne)
    refine W.widen (k := cells + 11) (n := slots + 214) (by omega) (by omega) ?_
    exact kk _ H locs (ST_mk cI cJ cZ cS oe_A mo_A oe_kept_A oe_standing_A pa_A pa_signs_A sc_A sh_A sh_looks_A sh_openBits_A bl_A bl_settings_A od_A od_quarters_A st_A st_talls_A st_pairs_A hw_A hw_cutsFrom_A hw_chosen_A pw_A pw_leaves_A pw_first_A mo_looks_A mo_period_A mo_shut_A mo_phase_A mo_quarters_A mo_tall_A mo_pairs_A mo_pad_A mo_cuts_A mo_at_A mo_first_A mo_kept_A mo_isKept_A oe_kept oe_standing pa_signs pa_count sc_people sc_bride sh_count sh_hands sh_looks sh_openBits bl_flash bl_settings od_tired od_quarters st_rows st_columns st_rise st_talls st_pairs st_changed hw_cutsFrom hw_chosen pw_leaves pw_first pw_people pw_count mo_people mo_shots mo_looks mo_bride mo_hands mo_period mo_shut mo_phase mo_flash mo_quarters mo_tired mo_rows mo_columns mo_rise mo_tall mo_pairs mo_pad mo_padMany mo_cuts mo_at mo_first mo_kept mo_isKept mo_keptAt mo_isWriting X0 X1 n c R C hpad hsh hbl hod hst hpw hk0 hk1) hP hD hS
