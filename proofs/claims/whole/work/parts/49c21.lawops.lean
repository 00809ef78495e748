set_option maxRecDepth 100000 in
theorem lo_shoot {p : Program} {l : Launch} {e : Env} {s : State} {m : MethodId} {args : Array Value} {below : List Frame} {meth : Method} {c : Code} {D : va_G} {cI cJ cZ cS : ClassId} (E : Ev p s m args c cL_law 4 RL D cI cJ cZ cS) {b L : Nat} {xs : Nat → Int32} (hX : va_X b L xs s s.heap) (hbl0 : b < s.heap.size) {i : Nat} (hi : i + 3 < L) (hL : L ≤ 2048) {oe_A mo_A : Nat} {ls : Array Slot} (hl : lv_has ls 4 [(0, .ref b), (1, .ref oe_A), (2, .ref mo_A), (3, .int (nI i))]) {ws : va_W} (hs : ST cI cJ cZ cS oe_A mo_A ws) {H : Heap} {locs : List Loc} (hP : va_P D vwCl ws H) (hD : va_D (fun q : Nat => s.heap.size ≤ q) ws) (hS : va_S (fun q : Nat => s.heap.size ≤ q) s.heap H locs) {cells slots : Nat} (hc : cells + 11 ≤ 600000 ∧ slots + 214 ≤ 7302250) {Q : State → Prop} (kk : ∀ (ws' : va_W) (H' : Heap) (locs' : List Loc), ST cI cJ cZ cS oe_A mo_A ws' → va_P D vwCl ws' H' → va_D (fun q : Nat => s.heap.size ≤ q) ws' → va_S (fun q : Nat => s.heap.size ≤ q) s.heap H' locs' → W p l e room_1 s m args below meth c H' locs' (cells + 11) (slots + 214) Q (F0 m 970 ls [])) : W p l e room_1 s m args below meth c H locs cells slots Q (F0 m 703 ls []) := by
  obtain ⟨hx, hb, hml, hown, hts, hG⟩ := id E
  have hA : ∀ q : Nat, s.heap.size ≤ q → (fun q : Nat => s.heap.size ≤ q) q := fun _ h => h
  have hbA : ¬ (fun q : Nat => s.heap.size ≤ q) b := Nat.not_le.mpr hbl0
  have hcs : cells ≤ room_1.cells ∧ slots ≤ room_1.slots := ⟨by show cells ≤ 600000; omega, by show slots ≤ 7302250; omega⟩
  have h_1 : vp_in (nI i + 1) L := by rw [nI_1]; exact vp_in_nI (by omega) (by omega)
  have h_2 : vp_in (nI i + 2) L := by rw [l_2, nI_add]; exact vp_in_nI (by omega) (by omega)
  have h_3 : vp_in (nI i + 3) L := by rw [l_3, nI_add]; exact vp_in_nI (by omega) (by omega)
  revert hP hD
  refine ST_el hs (G := fun ws => va_P D vwCl ws H → va_D (fun q : Nat => s.heap.size ≤ q) ws → W p l e room_1 s m args below meth c H locs cells slots Q (F0 m 703 ls [])) ?_
  intro oe_kept_A oe_standing_A pa_A pa_signs_A sc_A sh_A sh_looks_A sh_openBits_A bl_A bl_settings_A od_A od_quarters_A st_A st_talls_A st_pairs_A hw_A hw_cutsFrom_A hw_chosen_A pw_A pw_leaves_A pw_first_A mo_looks_A mo_period_A mo_shut_A mo_phase_A mo_quarters_A mo_tall_A mo_pairs_A mo_pad_A mo_cuts_A mo_at_A mo_first_A mo_kept_A mo_isKept_A oe_kept oe_standing pa_signs pa_count sc_people sc_bride sh_count sh_hands sh_looks sh_openBits bl_flash bl_settings od_tired od_quarters st_rows st_columns st_rise st_talls st_pairs st_changed hw_cutsFrom hw_chosen pw_leaves pw_first pw_people pw_count mo_people mo_shots mo_looks mo_bride mo_hands mo_period mo_shut mo_phase mo_flash mo_quarters mo_tired mo_rows mo_columns mo_rise mo_tall mo_pairs mo_pad mo_padMany mo_cuts mo_at mo_first mo_kept mo_isKept mo_keptAt mo_isWriting X0 X1 n c R C hpad hsh hbl hod hst hpw hk0 hk1 hP hD
  obtain ⟨N, r, f1, f2⟩ := pu_shoot hsh hod (xs (nI i + 1).toNatClampNeg) (xs (nI i + 2).toNatClampNeg) (xs (nI i + 3).toNatClampNeg)
  refine lv_aload_n (pc := 703) hx hb dL_law_703 rfl (lv_at hl 1 rfl) ?_
  refine lv_aload_n (pc := 704) hx hb dL_law_704 rfl (lv_at hl 0 rfl) ?_
  refine lv_iload_n (pc := 705) hx hb dL_law_705 rfl (lv_at hl 3 rfl) ?_
  refine lv_iconst (pc := 706) (v := (1 : Int32)) hx hb dL_law_706 (by decide) ?_
  refine lv_iadd (pc := 707) hx hb dL_law_707 ?_
  refine va_sld (pc := 708) hx hb hX hbl0 hbA hS h_1 dL_law_708 ?_
  refine lv_aload_n (pc := 709) hx hb dL_law_709 rfl (lv_at hl 0 rfl) ?_
  refine lv_iload_n (pc := 710) hx hb dL_law_710 rfl (lv_at hl 3 rfl) ?_
  refine lv_iconst (pc := 711) (v := (2 : Int32)) hx hb dL_law_711 (by decide) ?_
  refine lv_iadd (pc := 712) hx hb dL_law_712 ?_
  refine va_sld (pc := 713) hx hb hX hbl0 hbA hS h_2 dL_law_713 ?_
  refine lv_aload_n (pc := 714) hx hb dL_law_714 rfl (lv_at hl 0 rfl) ?_
  refine lv_iload_n (pc := 715) hx hb dL_law_715 rfl (lv_at hl 3 rfl) ?_
  refine lv_iconst (pc := 716) (v := (3 : Int32)) hx hb dL_law_716 (by decide) ?_
  refine lv_iadd (pc := 717) hx hb dL_law_717 ?_
  refine va_sld (pc := 718) hx hb hX hbl0 hbA hS h_3 dL_law_718 ?_
  refine ro_Vi (pc := 719) (rest := []) E (c_X8_shoot l D cI cJ cZ cS N oe_A oe_kept_A oe_standing_A pa_A pa_signs_A sc_A sh_A sh_looks_A sh_openBits_A bl_A bl_settings_A od_A od_quarters_A st_A st_talls_A st_pairs_A hw_A hw_cutsFrom_A hw_chosen_A pw_A pw_leaves_A pw_first_A oe_kept oe_standing pa_signs pa_count sc_people sc_bride sh_count sh_hands sh_looks sh_openBits bl_flash bl_settings od_tired od_quarters st_rows st_columns st_rise st_talls st_pairs st_changed hw_cutsFrom hw_chosen pw_leaves pw_first pw_people pw_count (xs (nI i + 1).toNatClampNeg) (xs (nI i + 2).toNatClampNeg) (xs (nI i + 3).toNatClampNeg) r f1) F_X8_shoot rfl rfl tw_536 tw_537 tw_538 hP.left ⟨by decide, by decide⟩ rfl hl.1 (Nat.le_of_ble_eq_true rfl) hcs rfl dL_law_719 ?_
  refine lv_aload_n (pc := 722) hx hb dL_law_722 rfl (lv_at hl 2 rfl) ?_
  refine lv_aload_n (pc := 723) hx hb dL_law_723 rfl (lv_at hl 0 rfl) ?_
  refine lv_iload_n (pc := 724) hx hb dL_law_724 rfl (lv_at hl 3 rfl) ?_
  refine lv_iconst (pc := 725) (v := (1 : Int32)) hx hb dL_law_725 (by decide) ?_
  refine lv_iadd (pc := 726) hx hb dL_law_726 ?_
  refine va_sld (pc := 727) hx hb hX hbl0 hbA hS h_1 dL_law_727 ?_
  refine lv_aload_n (pc := 728) hx hb dL_law_728 rfl (lv_at hl 0 rfl) ?_
  refine lv_iload_n (pc := 729) hx hb dL_law_729 rfl (lv_at hl 3 rfl) ?_
  refine lv_iconst (pc := 730) (v := (2 : Int32)) hx hb dL_law_730 (by decide) ?_
  refine lv_iadd (pc := 731) hx hb dL_law_731 ?_
  refine va_sld (pc := 732) hx hb hX hbl0 hbA hS h_2 dL_law_732 ?_
  refine lv_aload_n (pc := 733) hx hb dL_law_733 rfl (lv_at hl 0 rfl) ?_
  refine lv_iload_n (pc := 734) hx hb dL_law_734 rfl (lv_at hl 3 rfl) ?_
  refine lv_iconst (pc := 735) (v := (3 : Int32)) hx hb dL_law_735 (by decide) ?_
  refine lv_iadd (pc := 736) hx hb dL_law_736 ?_
  refine va_sld (pc := 737) hx hb hX hbl0 hbA hS h_3 dL_law_737 ?_
  refine ro_Vi (pc := 738) (rest := [.int r]) E (c_X9_shoot l D cI cJ cZ cS N mo_A mo_looks_A mo_period_A mo_shut_A mo_phase_A mo_quarters_A mo_tall_A mo_pairs_A mo_pad_A mo_cuts_A mo_at_A mo_first_A mo_kept_A mo_isKept_A mo_people mo_shots mo_looks mo_bride mo_hands mo_period mo_shut mo_phase mo_flash mo_quarters mo_tired mo_rows mo_columns mo_rise mo_tall mo_pairs mo_pad mo_padMany mo_cuts mo_at mo_first mo_kept mo_isKept mo_keptAt mo_isWriting (xs (nI i + 1).toNatClampNeg) (xs (nI i + 2).toNatClampNeg) (xs (nI i + 3).toNatClampNeg) r f2) F_X9_shoot rfl rfl tw_965 tw_966 tw_967 hP.right.left ⟨by decide, by decide⟩ rfl hl.1 (Nat.le_of_ble_eq_true rfl) hcs rfl dL_law_738 ?_
  refine lv_icmp_eq (pc := 741) (tgt := 970) hx hb dL_law_741 (by decide) (fun _ => ?_) (fun hne => absurd rfl hne)
  refine W.widen (k := cells + 11) (n := slots + 214) (by omega) (by omega) ?_
  exact kk _ H locs (ST_mk cI cJ cZ cS oe_A mo_A oe_kept_A oe_standing_A pa_A pa_signs_A sc_A sh_A sh_looks_A sh_openBits_A bl_A bl_settings_A od_A od_quarters_A st_A st_talls_A st_pairs_A hw_A hw_cutsFrom_A hw_chosen_A pw_A pw_leaves_A pw_first_A mo_looks_A mo_period_A mo_shut_A mo_phase_A mo_quarters_A mo_tall_A mo_pairs_A mo_pad_A mo_cuts_A mo_at_A mo_first_A mo_kept_A mo_isKept_A oe_kept oe_standing pa_signs pa_count sc_people sc_bride sh_count sh_hands sh_looks sh_openBits bl_flash bl_settings od_tired od_quarters st_rows st_columns st_rise st_talls st_pairs st_changed hw_cutsFrom hw_chosen pw_leaves pw_first pw_people pw_count mo_people mo_shots mo_looks mo_bride mo_hands mo_period mo_shut mo_phase mo_flash mo_quarters mo_tired mo_rows mo_columns mo_rise mo_tall mo_pairs mo_pad mo_padMany mo_cuts mo_at mo_first mo_kept mo_isKept mo_keptAt mo_isWriting X0 X1 n c R C hpad hsh hbl hod hst hpw hk0 hk1) hP hD hS
set_option maxRecDepth 100000 in
theorem lo_stair {p : Program} {l : Launch} {e : Env} {s : State} {m : MethodId} {args : Array Value} {below : List Frame} {meth : Method} {c : Code} {D : va_G} {cI cJ cZ cS : ClassId} (E : Ev p s m args c cL_law 4 RL D cI cJ cZ cS) {b L : Nat} {xs : Nat → Int32} (hX : va_X b L xs s s.heap) (hbl0 : b < s.heap.size) {i : Nat} (hi : i + 3 < L) (hL : L ≤ 2048) {oe_A mo_A : Nat} {ls : Array Slot} (hl : lv_has ls 4 [(0, .ref b), (1, .ref oe_A), (2, .ref mo_A), (3, .int (nI i))]) {ws : va_W} (hs : ST cI cJ cZ cS oe_A mo_A ws) {H : Heap} {locs : List Loc} (hP : va_P D vwCl ws H) (hD : va_D (fun q : Nat => s.heap.size ≤ q) ws) (hS : va_S (fun q : Nat => s.heap.size ≤ q) s.heap H locs) {cells slots : Nat} (hc : cells + 11 ≤ 600000 ∧ slots + 214 ≤ 7302250) {Q : State → Prop} (kk : ∀ (ws' : va_W) (H' : Heap) (locs' : List Loc), ST cI cJ cZ cS oe_A mo_A ws' → va_P D vwCl ws' H' → va_D (fun q : Nat => s.heap.size ≤ q) ws' → va_S (fun q : Nat => s.heap.size ≤ q) s.heap H' locs' → W p l e room_1 s m args below meth c H' locs' (cells + 11) (slots + 214) Q (F0 m 970 ls [])) : W p l e room_1 s m args below meth c H locs cells slots Q (F0 m 746 ls []) := by
  obtain ⟨hx, hb, hml, hown, hts, hG⟩ := id E
  have hA : ∀ q : Nat, s.heap.size ≤ q → (fun q : Nat => s.heap.size ≤ q) q := fun _ h => h
  have hbA : ¬ (fun q : Nat => s.heap.size ≤ q) b := Nat.not_le.mpr hbl0
  have hcs : cells ≤ room_1.cells ∧ slots ≤ room_1.slots := ⟨by show cells ≤ 600000; omega, by show slots ≤ 7302250; omega⟩
  have h_1 : vp_in (nI i + 1) L := by rw [nI_1]; exact vp_in_nI (by omega) (by omega)
  have h_2 : vp_in (nI i + 2) L := by rw [l_2, nI_add]; exact vp_in_nI (by omega) (by omega)
  have h_3 : vp_in (nI i + 3) L := by rw [l_3, nI_add]; exact vp_in_nI (by omega) (by omega)
  revert hP hD
  refine ST_el hs (G := fun ws => va_P D vwCl ws H → va_D (fun q : Nat => s.heap.size ≤ q) ws → W p l e room_1 s m args below meth c H locs cells slots Q (F0 m 746 ls [])) ?_
  intro oe_kept_A oe_standing_A pa_A pa_signs_A sc_A sh_A sh_looks_A sh_openBits_A bl_A bl_settings_A od_A od_quarters_A st_A st_talls_A st_pairs_A hw_A hw_cutsFrom_A hw_chosen_A pw_A pw_leaves_A pw_first_A mo_looks_A mo_period_A mo_shut_A mo_phase_A mo_quarters_A mo_tall_A mo_pairs_A mo_pad_A mo_cuts_A mo_at_A mo_first_A mo_kept_A mo_isKept_A oe_kept oe_standing pa_signs pa_count sc_people sc_bride sh_count sh_hands sh_looks sh_openBits bl_flash bl_settings od_tired od_quarters st_rows st_columns st_rise st_talls st_pairs st_changed hw_cutsFrom hw_chosen pw_leaves pw_first pw_people pw_count mo_people mo_shots mo_looks mo_bride mo_hands mo_period mo_shut mo_phase mo_flash mo_quarters mo_tired mo_rows mo_columns mo_rise mo_tall mo_pairs mo_pad mo_padMany mo_cuts mo_at mo_first mo_kept mo_isKept mo_keptAt mo_isWriting X0 X1 n c R C hpad hsh hbl hod hst hpw hk0 hk1 hP hD
  obtain ⟨r, r_st_rows, r_st_columns, r_st_changed, r_mo_rows, r_mo_columns, R', C', f1, f2, hst, hch⟩ := pu_stair hst (changed := st_changed) (xs (nI i + 1).toNatClampNeg) (xs (nI i + 2).toNatClampNeg)
  refine lv_aload_n (pc := 746) hx hb dL_law_746 rfl (lv_at hl 1 rfl) ?_
  refine lv_aload_n (pc := 747) hx hb dL_law_747 rfl (lv_at hl 0 rfl) ?_
  refine lv_iload_n (pc := 748) hx hb dL_law_748 rfl (lv_at hl 3 rfl) ?_
  refine lv_iconst (pc := 749) (v := (1 : Int32)) hx hb dL_law_749 (by decide) ?_
  refine lv_iadd (pc := 750) hx hb dL_law_750 ?_
  refine va_sld (pc := 751) hx hb hX hbl0 hbA hS h_1 dL_law_751 ?_
  refine lv_aload_n (pc := 752) hx hb dL_law_752 rfl (lv_at hl 0 rfl) ?_
  refine lv_iload_n (pc := 753) hx hb dL_law_753 rfl (lv_at hl 3 rfl) ?_
  refine lv_iconst (pc := 754) (v := (2 : Int32)) hx hb dL_law_754 (by decide) ?_
  refine lv_iadd (pc := 755) hx hb dL_law_755 ?_
  refine va_sld (pc := 756) hx hb hX hbl0 hbA hS h_2 dL_law_756 ?_
  refine rwA (pc := 757) (rest := []) E (c_X8_stair l D cI cJ cZ cS oe_A oe_kept_A oe_standing_A pa_A pa_signs_A sc_A sh_A sh_looks_A sh_openBits_A bl_A bl_settings_A od_A od_quarters_A st_A st_talls_A st_pairs_A hw_A hw_cutsFrom_A hw_chosen_A pw_A pw_leaves_A pw_first_A oe_kept oe_standing pa_signs pa_count sc_people sc_bride sh_count sh_hands sh_looks sh_openBits bl_flash bl_settings od_tired od_quarters st_rows st_columns st_rise st_talls st_pairs st_changed hw_cutsFrom hw_chosen pw_leaves pw_first pw_people pw_count (xs (nI i + 1).toNatClampNeg) (xs (nI i + 2).toNatClampNeg) H.size r r_st_rows r_st_columns r_st_changed f1) F_X8_stair rfl rfl tw_549 tw_550 tw_551 hP hD hS hA ⟨by decide, by decide⟩ rfl hl.1 (Nat.le_of_ble_eq_true rfl) hcs rfl dL_law_757 (fun H locs hP hD hS => ?_)
  refine lv_aload_n (pc := 760) hx hb dL_law_760 rfl (lv_at hl 2 rfl) ?_
  refine lv_aload_n (pc := 761) hx hb dL_law_761 rfl (lv_at hl 0 rfl) ?_
  refine lv_iload_n (pc := 762) hx hb dL_law_762 rfl (lv_at hl 3 rfl) ?_
  refine lv_iconst (pc := 763) (v := (1 : Int32)) hx hb dL_law_763 (by decide) ?_
  refine lv_iadd (pc := 764) hx hb dL_law_764 ?_
  refine va_sld (pc := 765) hx hb hX hbl0 hbA hS h_1 dL_law_765 ?_
  refine lv_aload_n (pc := 766) hx hb dL_law_766 rfl (lv_at hl 0 rfl) ?_
  refine lv_iload_n (pc := 767) hx hb dL_law_767 rfl (lv_at hl 3 rfl) ?_
  refine lv_iconst (pc := 768) (v := (2 : Int32)) hx hb dL_law_768 (by decide) ?_
  refine lv_iadd (pc := 769) hx hb dL_law_769 ?_
  refine va_sld (pc := 770) hx hb hX hbl0 hbA hS h_2 dL_law_770 ?_
  have hP := hP.perm (rot _ _ _)
  have hD := hD.perm (rot _ _ _)
  refine rwA (pc := 771) (rest := [.int r]) E (c_X9_stair l D cI cJ cZ cS mo_A mo_looks_A mo_period_A mo_shut_A mo_phase_A mo_quarters_A mo_tall_A mo_pairs_A mo_pad_A mo_cuts_A mo_at_A mo_first_A mo_kept_A mo_isKept_A mo_people mo_shots mo_looks mo_bride mo_hands mo_period mo_shut mo_phase mo_flash mo_quarters mo_tired mo_rows mo_columns mo_rise mo_tall mo_pairs mo_pad mo_padMany mo_cuts mo_at mo_first mo_kept mo_isKept mo_keptAt mo_isWriting (xs (nI i + 1).toNatClampNeg) (xs (nI i + 2).toNatClampNeg) H.size r r_mo_rows r_mo_columns f2) F_X9_stair rfl rfl tw_974 tw_975 tw_976 hP hD hS hA ⟨by decide, by decide⟩ rfl hl.1 (Nat.le_of_ble_eq_true rfl) hcs rfl dL_law_771 (fun H locs hP hD hS => ?_)
  have hP := hP.perm (rot _ _ _)
  have hD := hD.perm (rot _ _ _)
  refine lv_icmp_eq (pc := 774) (tgt := 970) hx hb dL_law_774 (by decide) (fun _ => ?_) (fun hne => absurd rfl hne)
  have hpw : R_pw n R' C' mo_rise mo_tall mo_pairs r_st_changed pw_count pw_first := by
    rcases hch with e | ⟨e1, e2, e3, e4, e5⟩
    · exact Or.inl e
    · rw [e1, e2, e5]; exact hpw
  refine W.widen (k := cells + 11) (n := slots + 214) (by omega) (by omega) ?_
  exact kk _ H locs (ST_mk cI cJ cZ cS oe_A mo_A oe_kept_A oe_standing_A pa_A pa_signs_A sc_A sh_A sh_looks_A sh_openBits_A bl_A bl_settings_A od_A od_quarters_A st_A st_talls_A st_pairs_A hw_A hw_cutsFrom_A hw_chosen_A pw_A pw_leaves_A pw_first_A mo_looks_A mo_period_A mo_shut_A mo_phase_A mo_quarters_A mo_tall_A mo_pairs_A mo_pad_A mo_cuts_A mo_at_A mo_first_A mo_kept_A mo_isKept_A oe_kept oe_standing pa_signs pa_count sc_people sc_bride sh_count sh_hands sh_looks sh_openBits bl_flash bl_settings od_tired od_quarters r_st_rows r_st_columns st_rise st_talls st_pairs r_st_changed hw_cutsFrom hw_chosen pw_leaves pw_first pw_people pw_count mo_people mo_shots mo_looks mo_bride mo_hands mo_period mo_shut mo_phase mo_flash mo_quarters mo_tired r_mo_rows r_mo_columns mo_rise mo_tall mo_pairs mo_pad mo_padMany mo_cuts mo_at mo_first mo_kept mo_isKept mo_keptAt mo_isWriting X0 X1 n c R' C' hpad hsh hbl hod hst hpw hk0 hk1) hP hD hS
set_option maxRecDepth 100000 in
theorem lo_tall {p : Program} {l : Launch} {e : Env} {s : State} {m : MethodId} {args : Array Value} {below : List Frame} {meth : Method} {c : Code} {D : va_G} {cI cJ cZ cS : ClassId} (E : Ev p s m args c cL_law 4 RL D cI cJ cZ cS) {b L : Nat} {xs : Nat → Int32} (hX : va_X b L xs s s.heap) (hbl0 : b < s.heap.size) {i : Nat} (hi : i + 3 < L) (hL : L ≤ 2048) {oe_A mo_A : Nat} {ls : Array Slot} (hl : lv_has ls 4 [(0, .ref b), (1, .ref oe_A), (2, .ref mo_A), (3, .int (nI i))]) {ws : va_W} (hs : ST cI cJ cZ cS oe_A mo_A ws) {H : Heap} {locs : List Loc} (hP : va_P D vwCl ws H) (hD : va_D (fun q : Nat => s.heap.size ≤ q) ws) (hS : va_S (fun q : Nat => s.heap.size ≤ q) s.heap H locs) {cells slots : Nat} (hc : cells + 11 ≤ 600000 ∧ slots + 214 ≤ 7302250) {Q : State → Prop} (kk : ∀ (ws' : va_W) (H' : Heap) (locs' : List Loc), ST cI cJ cZ cS oe_A mo_A ws' → va_P D vwCl ws' H' → va_D (fun q : Nat => s.heap.size ≤ q) ws' → va_S (fun q : Nat => s.heap.size ≤ q) s.heap H' locs' → W p l e room_1 s m args below meth c H' locs' (cells + 11) (slots + 214) Q (F0 m 970 ls [])) : W p l e room_1 s m args below meth c H locs cells slots Q (F0 m 779 ls []) := by
  obtain ⟨hx, hb, hml, hown, hts, hG⟩ := id E
  have hA : ∀ q : Nat, s.heap.size ≤ q → (fun q : Nat => s.heap.size ≤ q) q := fun _ h => h
  have hbA : ¬ (fun q : Nat => s.heap.size ≤ q) b := Nat.not_le.mpr hbl0
  have hcs : cells ≤ room_1.cells ∧ slots ≤ room_1.slots := ⟨by show cells ≤ 600000; omega, by show slots ≤ 7302250; omega⟩
  have h_1 : vp_in (nI i + 1) L := by rw [nI_1]; exact vp_in_nI (by omega) (by omega)
  have h_2 : vp_in (nI i + 2) L := by rw [l_2, nI_add]; exact vp_in_nI (by omega) (by omega)
  have h_3 : vp_in (nI i + 3) L := by rw [l_3, nI_add]; exact vp_in_nI (by omega) (by omega)
  revert hP hD
  refine ST_el hs (G := fun ws => va_P D vwCl ws H → va_D (fun q : Nat => s.heap.size ≤ q) ws → W p l e room_1 s m args below meth c H locs cells slots Q (F0 m 779 ls [])) ?_
  intro oe_kept_A oe_standing_A pa_A pa_signs_A sc_A sh_A sh_looks_A sh_openBits_A bl_A bl_settings_A od_A od_quarters_A st_A st_talls_A st_pairs_A hw_A hw_cutsFrom_A hw_chosen_A pw_A pw_leaves_A pw_first_A mo_looks_A mo_period_A mo_shut_A mo_phase_A mo_quarters_A mo_tall_A mo_pairs_A mo_pad_A mo_cuts_A mo_at_A mo_first_A mo_kept_A mo_isKept_A oe_kept oe_standing pa_signs pa_count sc_people sc_bride sh_count sh_hands sh_looks sh_openBits bl_flash bl_settings od_tired od_quarters st_rows st_columns st_rise st_talls st_pairs st_changed hw_cutsFrom hw_chosen pw_leaves pw_first pw_people pw_count mo_people mo_shots mo_looks mo_bride mo_hands mo_period mo_shut mo_phase mo_flash mo_quarters mo_tired mo_rows mo_columns mo_rise mo_tall mo_pairs mo_pad mo_padMany mo_cuts mo_at mo_first mo_kept mo_isKept mo_keptAt mo_isWriting X0 X1 n c R C hpad hsh hbl hod hst hpw hk0 hk1 hP hD
  obtain ⟨r, r_st_rise, r_st_changed, r_st_talls, r_mo_rise, r_mo_tall, f1, f2, hst, hch⟩ := pu_tall hsh hst (changed := st_changed) (xs (nI i + 1).toNatClampNeg) (xs (nI i + 2).toNatClampNeg)
  refine lv_aload_n (pc := 779) hx hb dL_law_779 rfl (lv_at hl 1 rfl) ?_
  refine lv_aload_n (pc := 780) hx hb dL_law_780 rfl (lv_at hl 0 rfl) ?_
  refine lv_iload_n (pc := 781) hx hb dL_law_781 rfl (lv_at hl 3 rfl) ?_
  refine lv_iconst (pc := 782) (v := (1 : Int32)) hx hb dL_law_782 (by decide) ?_
  refine lv_iadd (pc := 783) hx hb dL_law_783 ?_
  refine va_sld (pc := 784) hx hb hX hbl0 hbA hS h_1 dL_law_784 ?_
  refine lv_aload_n (pc := 785) hx hb dL_law_785 rfl (lv_at hl 0 rfl) ?_
  refine lv_iload_n (pc := 786) hx hb dL_law_786 rfl (lv_at hl 3 rfl) ?_
  refine lv_iconst (pc := 787) (v := (2 : Int32)) hx hb dL_law_787 (by decide) ?_
  refine lv_iadd (pc := 788) hx hb dL_law_788 ?_
  refine va_sld (pc := 789) hx hb hX hbl0 hbA hS h_2 dL_law_789 ?_
  refine rwA (pc := 790) (rest := []) E (c_X8_tall l D cI cJ cZ cS oe_A oe_kept_A oe_standing_A pa_A pa_signs_A sc_A sh_A sh_looks_A sh_openBits_A bl_A bl_settings_A od_A od_quarters_A st_A st_talls_A st_pairs_A hw_A hw_cutsFrom_A hw_chosen_A pw_A pw_leaves_A pw_first_A oe_kept oe_standing pa_signs pa_count sc_people sc_bride sh_count sh_hands sh_looks sh_openBits bl_flash bl_settings od_tired od_quarters st_rows st_columns st_rise st_talls st_pairs st_changed hw_cutsFrom hw_chosen pw_leaves pw_first pw_people pw_count (xs (nI i + 1).toNatClampNeg) (xs (nI i + 2).toNatClampNeg) H.size r r_st_rise r_st_changed r_st_talls f1) F_X8_tall rfl rfl tw_558 tw_559 tw_560 hP hD hS hA ⟨by decide, by decide⟩ rfl hl.1 (Nat.le_of_ble_eq_true rfl) hcs rfl dL_law_790 (fun H locs hP hD hS => ?_)
  refine lv_aload_n (pc := 793) hx hb dL_law_793 rfl (lv_at hl 2 rfl) ?_
  refine lv_aload_n (pc := 794) hx hb dL_law_794 rfl (lv_at hl 0 rfl) ?_
  refine lv_iload_n (pc := 795) hx hb dL_law_795 rfl (lv_at hl 3 rfl) ?_
  refine lv_iconst (pc := 796) (v := (1 : Int32)) hx hb dL_law_796 (by decide) ?_
  refine lv_iadd (pc := 797) hx hb dL_law_797 ?_
  refine va_sld (pc := 798) hx hb hX hbl0 hbA hS h_1 dL_law_798 ?_
  refine lv_aload_n (pc := 799) hx hb dL_law_799 rfl (lv_at hl 0 rfl) ?_
  refine lv_iload_n (pc := 800) hx hb dL_law_800 rfl (lv_at hl 3 rfl) ?_
  refine lv_iconst (pc := 801) (v := (2 : Int32)) hx hb dL_law_801 (by decide) ?_
  refine lv_iadd (pc := 802) hx hb dL_law_802 ?_
  refine va_sld (pc := 803) hx hb hX hbl0 hbA hS h_2 dL_law_803 ?_
  have hP := hP.perm (rot _ _ _)
  have hD := hD.perm (rot _ _ _)
  refine rwA (pc := 804) (rest := [.int r]) E (c_X9_tall l D cI cJ cZ cS mo_A mo_looks_A mo_period_A mo_shut_A mo_phase_A mo_quarters_A mo_tall_A mo_pairs_A mo_pad_A mo_cuts_A mo_at_A mo_first_A mo_kept_A mo_isKept_A mo_people mo_shots mo_looks mo_bride mo_hands mo_period mo_shut mo_phase mo_flash mo_quarters mo_tired mo_rows mo_columns mo_rise mo_tall mo_pairs mo_pad mo_padMany mo_cuts mo_at mo_first mo_kept mo_isKept mo_keptAt mo_isWriting (xs (nI i + 1).toNatClampNeg) (xs (nI i + 2).toNatClampNeg) H.size r r_mo_rise r_mo_tall f2) F_X9_tall rfl rfl tw_978 tw_979 tw_980 hP hD hS hA ⟨by decide, by decide⟩ rfl hl.1 (Nat.le_of_ble_eq_true rfl) hcs rfl dL_law_804 (fun H locs hP hD hS => ?_)
  have hP := hP.perm (rot _ _ _)
  have hD := hD.perm (rot _ _ _)
  refine lv_icmp_eq (pc := 807) (tgt := 970) hx hb dL_law_807 (by decide) (fun _ => ?_) (fun hne => absurd rfl hne)
  have hpw : R_pw n R C r_mo_rise r_mo_tall mo_pairs r_st_changed pw_count pw_first := by
    rcases hch with e | ⟨e1, e2, e3⟩
    · exact Or.inl e
    · rw [e1, e2, e3]; exact hpw
  refine W.widen (k := cells + 11) (n := slots + 214) (by omega) (by omega) ?_
  exact kk _ H locs (ST_mk cI cJ cZ cS oe_A mo_A oe_kept_A oe_standing_A pa_A pa_signs_A sc_A sh_A sh_looks_A sh_openBits_A bl_A bl_settings_A od_A od_quarters_A st_A st_talls_A st_pairs_A hw_A hw_cutsFrom_A hw_chosen_A pw_A pw_leaves_A pw_first_A mo_looks_A mo_period_A mo_shut_A mo_phase_A mo_quarters_A mo_tall_A mo_pairs_A mo_pad_A mo_cuts_A mo_at_A mo_first_A mo_kept_A mo_isKept_A oe_kept oe_standing pa_signs pa_count sc_people sc_bride sh_count sh_hands sh_looks sh_openBits bl_flash bl_settings od_tired od_quarters st_rows st_columns r_st_rise r_st_talls st_pairs r_st_changed hw_cutsFrom hw_chosen pw_leaves pw_first pw_people pw_count mo_people mo_shots mo_looks mo_bride mo_hands mo_period mo_shut mo_phase mo_flash mo_quarters mo_tired mo_rows mo_columns r_mo_rise r_mo_tall mo_pairs mo_pad mo_padMany mo_cuts mo_at mo_first mo_kept mo_isKept mo_keptAt mo_isWriting X0 X1 n c R C hpad hsh hbl hod hst hpw hk0 hk1) hP hD hS
set_option maxRecDepth 100000 in
theorem lo_pair {p : Program} {l : Launch} {e : Env} {s : State} {m : MethodId} {args : Array Value} {below : List Frame} {meth : Method} {c : Code} {D : va_G} {cI cJ cZ cS : ClassId} (E : Ev p s m args c cL_law 4 RL D cI cJ cZ cS) {b L : Nat} {xs : Nat → Int32} (hX : va_X b L xs s s.heap) (hbl0 : b < s.heap.size) {i : Nat} (hi : i + 3 < L) (hL : L ≤ 2048) {oe_A mo_A : Nat} {ls : Array Slot} (hl : lv_has ls 4 [(0, .ref b), (1, .ref oe_A), (2, .ref mo_A), (3, .int (nI i))]) {ws : va_W} (hs : ST cI cJ cZ cS oe_A mo_A ws) {H : Heap} {locs : List Loc} (hP : va_P D vwCl ws H) (hD : va_D (fun q : Nat => s.heap.size ≤ q) ws) (hS : va_S (fun q : Nat => s.heap.size ≤ q) s.heap H locs) {cells slots : Nat} (hc : cells + 11 ≤ 600000 ∧ slots + 214 ≤ 7302250) {Q : State → Prop} (kk : ∀ (ws' : va_W) (H' : Heap) (locs' : List Loc), ST cI cJ cZ cS oe_A mo_A ws' → va_P D vwCl ws' H' → va_D (fun q : Nat => s.heap.size ≤ q) ws' → va_S (fun q : Nat => s.heap.size ≤ q) s.heap H' locs' → W p l e room_1 s m args below meth c H' locs' (cells + 11) (slots + 214) Q (F0 m 970 ls [])) : W p l e room_1 s m args below meth c H locs cells slots Q (F0 m 812 ls []) := by
  obtain ⟨hx, hb, hml, hown, hts, hG⟩ := id E
  have hA : ∀ q : Nat, s.heap.size ≤ q → (fun q : Nat => s.heap.size ≤ q) q := fun _ h => h
  have hbA : ¬ (fun q : Nat => s.heap.size ≤ q) b := Nat.not_le.mpr hbl0
  have hcs : cells ≤ room_1.cells ∧ slots ≤ room_1.slots := ⟨by show cells ≤ 600000; omega, by show slots ≤ 7302250; omega⟩
  have h_1 : vp_in (nI i + 1) L := by rw [nI_1]; exact vp_in_nI (by omega) (by omega)
  have h_2 : vp_in (nI i + 2) L := by rw [l_2, nI_add]; exact vp_in_nI (by omega) (by omega)
  have h_3 : vp_in (nI i + 3) L := by rw [l_3, nI_add]; exact vp_in_nI (by omega) (by omega)
  revert hP hD
  refine ST_el hs (G := fun ws => va_P D vwCl ws H → va_D (fun q : Nat => s.heap.size ≤ q) ws → W p l e room_1 s m args below meth c H locs cells slots Q (F0 m 812 ls [])) ?_
  intro oe_kept_A oe_standing_A pa_A pa_signs_A sc_A sh_A sh_looks_A sh_openBits_A bl_A bl_settings_A od_A od_quarters_A st_A st_talls_A st_pairs_A hw_A hw_cutsFrom_A hw_chosen_A pw_A pw_leaves_A pw_first_A mo_looks_A mo_period_A mo_shut_A mo_phase_A mo_quarters_A mo_tall_A mo_pairs_A mo_pad_A mo_cuts_A mo_at_A mo_first_A mo_kept_A mo_isKept_A oe_kept oe_standing pa_signs pa_count sc_people sc_bride sh_count sh_hands sh_looks sh_openBits bl_flash bl_settings od_tired od_quarters st_rows st_columns st_rise st_talls st_pairs st_changed hw_cutsFrom hw_chosen pw_leaves pw_first pw_people pw_count mo_people mo_shots mo_looks mo_bride mo_hands mo_period mo_shut mo_phase mo_flash mo_quarters mo_tired mo_rows mo_columns mo_rise mo_tall mo_pairs mo_pad mo_padMany mo_cuts mo_at mo_first mo_kept mo_isKept mo_keptAt mo_isWriting X0 X1 n c R C hpad hsh hbl hod hst hpw hk0 hk1 hP hD
  obtain ⟨r, r_st_changed, r_st_pairs, r_mo_pairs, f1, f2, hst, hch⟩ := pu_pair hsh hst (changed := st_changed) (xs (nI i + 1).toNatClampNeg) (xs (nI i + 2).toNatClampNeg) (xs (nI i + 3).toNatClampNeg)
  refine lv_aload_n (pc := 812) hx hb dL_law_812 rfl (lv_at hl 1 rfl) ?_
  refine lv_aload_n (pc := 813) hx hb dL_law_813 rfl (lv_at hl 0 rfl) ?_
  refine lv_iload_n (pc := 814) hx hb dL_law_814 rfl (lv_at hl 3 rfl) ?_
  refine lv_iconst (pc := 815) (v := (1 : Int32)) hx hb dL_law_815 (by decide) ?_
  refine lv_iadd (pc := 816) hx hb dL_law_816 ?_
  refine va_sld (pc := 817) hx hb hX hbl0 hbA hS h_1 dL_law_817 ?_
  refine lv_aload_n (pc := 818) hx hb dL_law_818 rfl (lv_at hl 0 rfl) ?_
  refine lv_iload_n (pc := 819) hx hb dL_law_819 rfl (lv_at hl 3 rfl) ?_
  refine lv_iconst (pc := 820) (v := (2 : Int32)) hx hb dL_law_820 (by decide) ?_
  refine lv_iadd (pc := 821) hx hb dL_law_821 ?_
  refine va_sld (pc := 822) hx hb hX hbl0 hbA hS h_2 dL_law_822 ?_
  refine lv_aload_n (pc := 823) hx hb dL_law_823 rfl (lv_at hl 0 rfl) ?_
  refine lv_iload_n (pc := 824) hx hb dL_law_824 rfl (lv_at hl 3 rfl) ?_
  refine lv_iconst (pc := 825) (v := (3 : Int32)) hx hb dL_law_825 (by decide) ?_
  refine lv_iadd (pc := 826) hx hb dL_law_826 ?_
  refine va_sld (pc := 827) hx hb hX hbl0 hbA hS h_3 dL_law_827 ?_
  refine rwA (pc := 828) (rest := []) E (c_X8_pair l D cI cJ cZ cS oe_A oe_kept_A oe_standing_A pa_A pa_signs_A sc_A sh_A sh_looks_A sh_openBits_A bl_A bl_settings_A od_A od_quarters_A st_A st_talls_A st_pairs_A hw_A hw_cutsFrom_A hw_chosen_A pw_A pw_leaves_A pw_first_A oe_kept oe_standing pa_signs pa_count sc_people sc_bride sh_count sh_hands sh_looks sh_openBits bl_flash bl_settings od_tired od_quarters st_rows st_columns st_rise st_talls st_pairs st_changed hw_cutsFrom hw_chosen pw_leaves pw_first pw_people pw_count (xs (nI i + 1).toNatClampNeg) (xs (nI i + 2).toNatClampNeg) (xs (nI i + 3).toNatClampNeg) H.size r r_st_changed r_st_pairs f1) F_X8_pair rfl rfl tw_570 tw_571 tw_572 hP hD hS hA ⟨by decide, by decide⟩ rfl hl.1 (Nat.le_of_ble_eq_true rfl) hcs rfl dL_law_828 (fun H locs hP hD hS => ?_)
  refine lv_aload_n (pc := 831) hx hb dL_law_831 rfl (lv_at hl 2 rfl) ?_
  refine lv_aload_n (pc := 832) hx hb dL_law_832 rfl (lv_at hl 0 rfl) ?_
  refine lv_iload_n (pc := 833) hx hb dL_law_833 rfl (lv_at hl 3 rfl) ?_
  refine lv_iconst (pc := 834) (v := (1 : Int32)) hx hb dL_law_834 (by decide) ?_
  refine lv_iadd (pc := 835) hx hb dL_law_835 ?_
  refine va_sld (pc := 836) hx hb hX hbl0 hbA hS h_1 dL_law_836 ?_
  refine lv_aload_n (pc := 837) hx hb dL_law_837 rfl (lv_at hl 0 rfl) ?_
  refine lv_iload_n (pc := 838) hx hb dL_law_838 rfl (lv_at hl 3 rfl) ?_
  refine lv_iconst (pc := 839) (v := (2 : Int32)) hx hb dL_law_839 (by decide) ?_
  refine lv_iadd (pc := 840) hx hb dL_law_840 ?_
  refine va_sld (pc := 841) hx hb hX hbl0 hbA hS h_2 dL_law_841 ?_
  refine lv_aload_n (pc := 842) hx hb dL_law_842 rfl (lv_at hl 0 rfl) ?_
  refine lv_iload_n (pc := 843) hx hb dL_law_843 rfl (lv_at hl 3 rfl) ?_
  refine lv_iconst (pc := 844) (v := (3 : Int32)) hx hb dL_law_844 (by decide) ?_
  refine lv_iadd (pc := 845) hx hb dL_law_845 ?_
  refine va_sld (pc := 846) hx hb hX hbl0 hbA hS h_3 dL_law_846 ?_
  have hP := hP.perm (rot _ _ _)
  have hD := hD.perm (rot _ _ _)
  refine rwA (pc := 847) (rest := [.int r]) E (c_X9_pair l D cI cJ cZ cS mo_A mo_looks_A mo_period_A mo_shut_A mo_phase_A mo_quarters_A mo_tall_A mo_pairs_A mo_pad_A mo_cuts_A mo_at_A mo_first_A mo_kept_A mo_isKept_A mo_people mo_shots mo_looks mo_bride mo_hands mo_period mo_shut mo_phase mo_flash mo_quarters mo_tired mo_rows mo_columns mo_rise mo_tall mo_pairs mo_pad mo_padMany mo_cuts mo_at mo_first mo_kept mo_isKept mo_keptAt mo_isWriting (xs (nI i + 1).toNatClampNeg) (xs (nI i + 2).toNatClampNeg) (xs (nI i + 3).toNatClampNeg) H.size r r_mo_pairs f2) F_X9_pair rfl rfl tw_984 tw_985 tw_986 hP hD hS hA ⟨by decide, by decide⟩ rfl hl.1 (Nat.le_of_ble_eq_true rfl) hcs rfl dL_law_847 (fun H locs hP hD hS => ?_)
  have hP := hP.perm (rot _ _ _)
  have hD := hD.perm (rot _ _ _)
  refine lv_icmp_eq (pc := 850) (tgt := 970) hx hb dL_law_850 (by decide) (fun _ => ?_) (fun hne => absurd rfl hne)
  have hpw : R_pw n R C mo_rise mo_tall r_mo_pairs r_st_changed pw_count pw_first := by
    rcases hch with e | ⟨e1, e2⟩
    · exact Or.inl e
    · rw [e1, e2]; exact hpw
  refine W.widen (k := cells + 11) (n := slots + 214) (by omega) (by omega) ?_
  exact kk _ H locs (ST_mk cI cJ cZ cS oe_A mo_A oe_kept_A oe_standing_A pa_A pa_signs_A sc_A sh_A sh_looks_A sh_openBits_A bl_A bl_settings_A od_A od_quarters_A st_A st_talls_A st_pairs_A hw_A hw_cutsFrom_A hw_chosen_A pw_A pw_leaves_A pw_first_A mo_looks_A mo_period_A mo_shut_A mo_phase_A mo_quarters_A mo_tall_A mo_pairs_A mo_pad_A mo_cuts_A mo_at_A mo_first_A mo_kept_A mo_isKept_A oe_kept oe_standing pa_signs pa_count sc_people sc_bride sh_count sh_hands sh_looks sh_openBits bl_flash bl_settings od_tired od_quarters st_rows st_columns st_rise st_talls r_st_pairs r_st_changed hw_cutsFrom hw_chosen pw_leaves pw_first pw_people pw_count mo_people mo_shots mo_looks mo_bride mo_hands mo_period mo_shut mo_phase mo_flash mo_quarters mo_tired mo_rows mo_columns mo_rise mo_tall r_mo_pairs mo_pad mo_padMany mo_cuts mo_at mo_first mo_kept mo_isKept mo_keptAt mo_isWriting X0 X1 n c R C hpad hsh hbl hod hst hpw hk0 hk1) hP hD hS
set_option maxRecDepth 100000 in
theorem lo_judge {p : Program} {l : Launch} {e : Env} {s : State} {m : MethodId} {args : Array Value} {below : List Frame} {meth : Method} {c : Code} {D : va_G} {cI cJ cZ cS : ClassId} (E : Ev p s m args c cL_law 4 RL D cI cJ cZ cS) {b L : Nat} {xs : Nat → Int32} (hX : va_X b L xs s s.heap) (hbl0 : b < s.heap.size) {i : Nat} (hi : i + 3 < L) (hL : L ≤ 2048) {oe_A mo_A : Nat} {ls : Array Slot} (hl : lv_has ls 4 [(0, .ref b), (1, .ref oe_A), (2, .ref mo_A), (3, .int (nI i))]) {ws : va_W} (hs : ST cI cJ cZ cS oe_A mo_A ws) {H : Heap} {locs : List Loc} (hP : va_P D vwCl ws H) (hD : va_D (fun q : Nat => s.heap.size ≤ q) ws) (hS : va_S (fun q : Nat => s.heap.size ≤ q) s.heap H locs) {cells slots : Nat} (hc : cells + 11 ≤ 600000 ∧ slots + 214 ≤ 7302250) {Q : State → Prop} (kk : ∀ (ws' : va_W) (H' : Heap) (locs' : List Loc), ST cI cJ cZ cS oe_A mo_A ws' → va_P D vwCl ws' H' → va_D (fun q : Nat => s.heap.size ≤ q) ws' → va_S (fun q : Nat => s.heap.size ≤ q) s.heap H' locs' → W p l e room_1 s m args below meth c H' locs' (cells + 11) (slots + 214) Q (F0 m 970 ls [])) : W p l e room_1 s m args below meth c H locs cells slots Q (F0 m 855 ls []) := by
  obtain ⟨hx, hb, hml, hown, hts, hG⟩ := id E
  have hA : ∀ q : Nat, s.heap.size ≤ q → (fun q : Nat => s.heap.size ≤ q) q := fun _ h => h
  have hbA : ¬ (fun q : Nat => s.heap.size ≤ q) b := Nat.not_le.mpr hbl0
  have hcs : cells ≤ room_1.cells ∧ slots ≤ room_1.slots := ⟨by show cells ≤ 600000; omega, by show slots ≤ 7302250; omega⟩
  have h_1 : vp_in (nI i + 1) L := by rw [nI_1]; exact vp_in_nI (by omega) (by omega)
  have h_2 : vp_in (nI i + 2) L := by rw [l_2, nI_add]; exact vp_in_nI (by omega) (by omega)
  have h_3 : vp_in (nI i + 3) L := by rw [l_3, nI_add]; exact vp_in_nI (by omega) (by omega)
  revert hP hD
  refine ST_el hs (G := fun ws => va_P D vwCl ws H → va_D (fun q : Nat => s.heap.size ≤ q) ws → W p l e room_1 s m args below meth c H locs cells slots Q (F0 m 855 ls [])) ?_
  intro oe_kept_A oe_standing_A pa_A pa_signs_A sc_A sh_A sh_looks_A sh_openBits_A bl_A bl_settings_A od_A od_quarters_A st_A st_talls_A st_pairs_A hw_A hw_cutsFrom_A hw_chosen_A pw_A pw_leaves_A pw_first_A mo_looks_A mo_period_A mo_shut_A mo_phase_A mo_quarters_A mo_tall_A mo_pairs_A mo_pad_A mo_cuts_A mo_at_A mo_first_A mo_kept_A mo_isKept_A oe_kept oe_standing pa_signs pa_count sc_people sc_bride sh_count sh_hands sh_looks sh_openBits bl_flash bl_settings od_tired od_quarters st_rows st_columns st_rise st_talls st_pairs st_changed hw_cutsFrom hw_chosen pw_leaves pw_first pw_people pw_count mo_people mo_shots mo_looks mo_bride mo_hands mo_period mo_shut mo_phase mo_flash mo_quarters mo_tired mo_rows mo_columns mo_rise mo_tall mo_pairs mo_pad mo_padMany mo_cuts mo_at mo_first mo_kept mo_isKept mo_keptAt mo_isWriting X0 X1 n c R C hpad hsh hbl hod hst hpw hk0 hk1 hP hD
  obtain ⟨N, r, r_oe_standing, r_mo_at, f1, f2⟩ := pu_judge hpad hsh hst oe_standing mo_at (xs (nI i + 1).toNatClampNeg)
  refine lv_aload_n (pc := 855) hx hb dL_law_855 rfl (lv_at hl 1 rfl) ?_
  refine lv_aload_n (pc := 856) hx hb dL_law_856 rfl (lv_at hl 0 rfl) ?_
  refine lv_iload_n (pc := 857) hx hb dL_law_857 rfl (lv_at hl 3 rfl) ?_
  refine lv_iconst (pc := 858) (v := (1 : Int32)) hx hb dL_law_858 (by decide) ?_
  refine lv_iadd (pc := 859) hx hb dL_law_859 ?_
  refine va_sld (pc := 860) hx hb hX hbl0 hbA hS h_1 dL_law_860 ?_
  refine rwA (pc := 861) (rest := []) E (c_X8_judge l D cI cJ cZ cS N oe_A oe_kept_A oe_standing_A pa_A pa_signs_A sc_A sh_A sh_looks_A sh_openBits_A bl_A bl_settings_A od_A od_quarters_A st_A st_talls_A st_pairs_A hw_A hw_cutsFrom_A hw_chosen_A pw_A pw_leaves_A pw_first_A oe_kept oe_standing pa_signs pa_count sc_people sc_bride sh_count sh_hands sh_looks sh_openBits bl_flash bl_settings od_tired od_quarters st_rows st_columns st_rise st_talls st_pairs st_changed hw_cutsFrom hw_chosen pw_leaves pw_first pw_people pw_count (xs (nI i + 1).toNatClampNeg) H.size r r_oe_standing f1) F_X8_judge rfl rfl tw_578 tw_579 tw_580 hP hD hS hA ⟨by decide, by decide⟩ rfl hl.1 (Nat.le_of_ble_eq_true rfl) hcs rfl dL_law_861 (fun H locs hP hD hS => ?_)
  refine lv_aload_n (pc := 864) hx hb dL_law_864 rfl (lv_at hl 2 rfl) ?_
  refine lv_aload_n (pc := 865) hx hb dL_law_865 rfl (lv_at hl 0 rfl) ?_
  refine lv_iload_n (pc := 866) hx hb dL_law_866 rfl (lv_at hl 3 rfl) ?_
  refine lv_iconst (pc := 867) (v := (1 : Int32)) hx hb dL_law_867 (by decide) ?_
  refine lv_iadd (pc := 868) hx hb dL_law_868 ?_
  refine va_sld (pc := 869) hx hb hX hbl0 hbA hS h_1 dL_law_869 ?_
  have hP := hP.perm (rot _ _ _)
  have hD := hD.perm (rot _ _ _)
  refine rwA (pc := 870) (rest := [.int r]) E (c_X9_judge l D cI cJ cZ cS N mo_A mo_looks_A mo_period_A mo_shut_A mo_phase_A mo_quarters_A mo_tall_A mo_pairs_A mo_pad_A mo_cuts_A mo_at_A mo_first_A mo_kept_A mo_isKept_A mo_people mo_shots mo_looks mo_bride mo_hands mo_period mo_shut mo_phase mo_flash mo_quarters mo_tired mo_rows mo_columns mo_rise mo_tall mo_pairs mo_pad mo_padMany mo_cuts mo_at mo_first mo_kept mo_isKept mo_keptAt mo_isWriting (xs (nI i + 1).toNatClampNeg) H.size r r_mo_at f2) F_X9_judge rfl rfl tw_988 tw_989 tw_990 hP hD hS hA ⟨by decide, by decide⟩ rfl hl.1 (Nat.le_of_ble_eq_true rfl) hcs rfl dL_law_870 (fun H locs hP hD hS => ?_)
  have hP := hP.perm (rot _ _ _)
  have hD := hD.perm (rot _ _ _)
  refine lv_icmp_eq (pc := 873) (tgt := 970) hx hb dL_law_873 (by decide) (fun _ => ?_) (fun hne => absurd rfl hne)
  refine W.widen (k := cells + 11) (n := slots + 214) (by omega) (by omega) ?_
  exact kk _ H locs (ST_mk cI cJ cZ cS oe_A mo_A oe_kept_A oe_standing_A pa_A pa_signs_A sc_A sh_A sh_looks_A sh_openBits_A bl_A bl_settings_A od_A od_quarters_A st_A st_talls_A st_pairs_A hw_A hw_cutsFrom_A hw_chosen_A pw_A pw_leaves_A pw_first_A mo_looks_A mo_period_A mo_shut_A mo_phase_A mo_quarters_A mo_tall_A mo_pairs_A mo_pad_A mo_cuts_A mo_at_A mo_first_A mo_kept_A mo_isKept_A oe_kept r_oe_standing pa_signs pa_count sc_people sc_bride sh_count sh_hands sh_looks sh_openBits bl_flash bl_settings od_tired od_quarters st_rows st_columns st_rise st_talls st_pairs st_changed hw_cutsFrom hw_chosen pw_leaves pw_first pw_people pw_count mo_people mo_shots mo_looks mo_bride mo_hands mo_period mo_shut mo_phase mo_flash mo_quarters mo_tired mo_rows mo_columns mo_rise mo_tall mo_pairs mo_pad mo_padMany mo_cuts r_mo_at mo_first mo_kept mo_isKept mo_keptAt mo_isWriting X0 X1 n c R C hpad hsh hbl hod hst hpw hk0 hk1) hP hD hS
set_option maxRecDepth 100000 in
theorem lo_placed {p : Program} {l : Launch} {e : Env} {s : State} {m : MethodId} {args : Array Value} {below : List Frame} {meth : Method} {c : Code} {D : va_G} {cI cJ cZ cS : ClassId} (E : Ev p s m args c cL_law 4 RL D cI cJ cZ cS) {b L : Nat} {xs : Nat → Int32} (hX : va_X b L xs s s.heap) (hbl0 : b < s.heap.size) {i : Nat} (hi : i + 3 < L) (hL : L ≤ 2048) {oe_A mo_A : Nat} {ls : Array Slot} (hl : lv_has ls 4 [(0, .ref b), (1, .ref oe_A), (2, .ref mo_A), (3, .int (nI i))]) {ws : va_W} (hs : ST cI cJ cZ cS oe_A mo_A ws) {H : Heap} {locs : List Loc} (hP : va_P D vwCl ws H) (hD : va_D (fun q : Nat => s.heap.size ≤ q) ws) (hS : va_S (fun q : Nat => s.heap.size ≤ q) s.heap H locs) {cells slots : Nat} (hc : cells + 11 ≤ 600000 ∧ slots + 214 ≤ 7302250) {Q : State → Prop} (kk : ∀ (ws' : va_W) (H' : Heap) (locs' : List Loc), ST cI cJ cZ cS oe_A mo_A ws' → va_P D vwCl ws' H' → va_D (fun q : Nat => s.heap.size ≤ q) ws' → va_S (fun q : Nat => s.heap.size ≤ q) s.heap H' locs' → W p l e room_1 s m args below meth c H' locs' (cells + 11) (slots + 214) Q (F0 m 970 ls [])) : W p l e room_1 s m args below meth c H locs cells slots Q (F0 m 878 ls []) := by
  obtain ⟨hx, hb, hml, hown, hts, hG⟩ := id E
  have hA : ∀ q : Nat, s.heap.size ≤ q → (fun q : Nat => s.heap.size ≤ q) q := fun _ h => h
  have hbA : ¬ (fun q : Nat => s.heap.size ≤ q) b := Nat.not_le.mpr hbl0
  have hcs : cells ≤ room_1.cells ∧ slots ≤ room_1.slots := ⟨by show cells ≤ 600000; omega, by show slots ≤ 7302250; omega⟩
  have h_1 : vp_in (nI i + 1) L := by rw [nI_1]; exact vp_in_nI (by omega) (by omega)
  have h_2 : vp_in (nI i + 2) L := by rw [l_2, nI_add]; exact vp_in_nI (by omega) (by omega)
  have h_3 : vp_in (nI i + 3) L := by rw [l_3, nI_add]; exact vp_in_nI (by omega) (by omega)
  revert hP hD
  refine ST_el hs (G := fun ws => va_P D vwCl ws H → va_D (fun q : Nat => s.heap.size ≤ q) ws → W p l e room_1 s m args below meth c H locs cells slots Q (F0 m 878 ls [])) ?_
  intro oe_kept_A oe_standing_A pa_A pa_signs_A sc_A sh_A sh_looks_A sh_openBits_A bl_A bl_settings_A od_A od_quarters_A st_A st_talls_A st_pairs_A hw_A hw_cutsFrom_A hw_chosen_A pw_A pw_leaves_A pw_first_A mo_looks_A mo_period_A mo_shut_A mo_phase_A mo_quarters_A mo_tall_A mo_pairs_A mo_pad_A mo_cuts_A mo_at_A mo_first_A mo_kept_A mo_isKept_A oe_kept oe_standing pa_signs pa_count sc_people sc_bride sh_count sh_hands sh_looks sh_openBits bl_flash bl_settings od_tired od_quarters st_rows st_columns st_rise st_talls st_pairs st_changed hw_cutsFrom hw_chosen pw_leaves pw_first pw_people pw_count mo_people mo_shots mo_looks mo_bride mo_hands mo_period mo_shut mo_phase mo_flash mo_quarters mo_tired mo_rows mo_columns mo_rise mo_tall mo_pairs mo_pad mo_padMany mo_cuts mo_at mo_first mo_kept mo_isKept mo_keptAt mo_isWriting X0 X1 n c R C hpad hsh hbl hod hst hpw hk0 hk1 hP hD
  obtain ⟨N, r, r_st_changed, r_pw_people, r_pw_count, r_pw_leaves, r_pw_first, r_mo_at, r_mo_first, f1, f2, hpw⟩ := pu_placed hsh hst hpw pw_leaves pw_people mo_at mo_first (xs (nI i + 1).toNatClampNeg)
  refine lv_aload_n (pc := 878) hx hb dL_law_878 rfl (lv_at hl 1 rfl) ?_
  refine lv_aload_n (pc := 879) hx hb dL_law_879 rfl (lv_at hl 0 rfl) ?_
  refine lv_iload_n (pc := 880) hx hb dL_law_880 rfl (lv_at hl 3 rfl) ?_
  refine lv_iconst (pc := 881) (v := (1 : Int32)) hx hb dL_law_881 (by decide) ?_
  refine lv_iadd (pc := 882) hx hb dL_law_882 ?_
  refine va_sld (pc := 883) hx hb hX hbl0 hbA hS h_1 dL_law_883 ?_
  refine rwA (pc := 884) (rest := []) E (c_X8_placed l D cI cJ cZ cS N oe_A oe_kept_A oe_standing_A pa_A pa_signs_A sc_A sh_A sh_looks_A sh_openBits_A bl_A bl_settings_A od_A od_quarters_A st_A st_talls_A st_pairs_A hw_A hw_cutsFrom_A hw_chosen_A pw_A pw_leaves_A pw_first_A oe_kept oe_standing pa_signs pa_count sc_people sc_bride sh_count sh_hands sh_looks sh_openBits bl_flash bl_settings od_tired od_quarters st_rows st_columns st_rise st_talls st_pairs st_changed hw_cutsFrom hw_chosen pw_leaves pw_first pw_people pw_count (xs (nI i + 1).toNatClampNeg) H.size r r_st_changed r_pw_people r_pw_count r_pw_leaves r_pw_first f1) F_X8_placed rfl rfl tw_618 tw_619 tw_620 hP hD hS hA ⟨by decide, by decide⟩ rfl hl.1 (Nat.le_of_ble_eq_true rfl) hcs rfl dL_law_884 (fun H locs hP hD hS => ?_)
  refine lv_aload_n (pc := 887) hx hb dL_law_887 rfl (lv_at hl 2 rfl) ?_
  refine lv_aload_n (pc := 888) hx hb dL_law_888 rfl (lv_at hl 0 rfl) ?_
  refine lv_iload_n (pc := 889) hx hb dL_law_889 rfl (lv_at hl 3 rfl) ?_
  refine lv_iconst (pc := 890) (v := (1 : Int32)) hx hb dL_law_890 (by decide) ?_
  refine lv_iadd (pc := 891) hx hb dL_law_891 ?_
  refine va_sld (pc := 892) hx hb hX hbl0 hbA hS h_1 dL_law_892 ?_
  have hP := hP.perm (rot _ _ _)
  have hD := hD.perm (rot _ _ _)
  refine rwA (pc := 893) (rest := [.int r]) E (c_X9_placed l D cI cJ cZ cS N mo_A mo_looks_A mo_period_A mo_shut_A mo_phase_A mo_quarters_A mo_tall_A mo_pairs_A mo_pad_A mo_cuts_A mo_at_A mo_first_A mo_kept_A mo_isKept_A mo_people mo_shots mo_looks mo_bride mo_hands mo_period mo_shut mo_phase mo_flash mo_quarters mo_tired mo_rows mo_columns mo_rise mo_tall mo_pairs mo_pad mo_padMany mo_cuts mo_at mo_first mo_kept mo_isKept mo_keptAt mo_isWriting (xs (nI i + 1).toNatClampNeg) H.size r r_mo_at r_mo_first f2) F_X9_placed rfl rfl tw_1008 tw_1009 tw_1010 hP hD hS hA ⟨by decide, by decide⟩ rfl hl.1 (Nat.le_of_ble_eq_true rfl) hcs rfl dL_law_893 (fun H locs hP hD hS => ?_)
  have hP := hP.perm (rot _ _ _)
  have hD := hD.perm (rot _ _ _)
  refine lv_icmp_eq (pc := 896) (tgt := 970) hx hb dL_law_896 (by decide) (fun _ => ?_) (fun hne => absurd rfl hne)
  refine W.widen (k := cells + 11) (n := slots + 214) (by omega) (by omega) ?_
  exact kk _ H locs (ST_mk cI cJ cZ cS oe_A mo_A oe_kept_A oe_standing_A pa_A pa_signs_A sc_A sh_A sh_looks_A sh_openBits_A bl_A bl_settings_A od_A od_quarters_A st_A st_talls_A st_pairs_A hw_A hw_cutsFrom_A hw_chosen_A pw_A pw_leaves_A pw_first_A mo_looks_A mo_period_A mo_shut_A mo_phase_A mo_quarters_A mo_tall_A mo_pairs_A mo_pad_A mo_cuts_A mo_at_A mo_first_A mo_kept_A mo_isKept_A oe_kept oe_standing pa_signs pa_count sc_people sc_bride sh_count sh_hands sh_looks sh_openBits bl_flash bl_settings od_tired od_quarters st_rows st_columns st_rise st_talls st_pairs r_st_changed hw_cutsFrom hw_chosen r_pw_leaves r_pw_first r_pw_people r_pw_count mo_people mo_shots mo_looks mo_bride mo_hands mo_period mo_shut mo_phase mo_flash mo_quarters mo_tired mo_rows mo_columns mo_rise mo_tall mo_pairs mo_pad mo_padMany mo_cuts r_mo_at r_mo_first mo_kept mo_isKept mo_keptAt mo_isWriting X0 X1 n c R C hpad hsh hbl hod hst hpw hk0 hk1) hP hD hS
set_option maxRecDepth 100000 in
theorem lo_told {p : Program} {l : Launch} {e : Env} {s : State} {m : MethodId} {args : Array Value} {below : List Frame} {meth : Method} {c : Code} {D : va_G} {cI cJ cZ cS : ClassId} (E : Ev p s m args c cL_law 4 RL D cI cJ cZ cS) {b L : Nat} {xs : Nat → Int32} (hX : va_X b L xs s s.heap) (hbl0 : b < s.heap.size) {i : Nat} (hi : i + 3 < L) (hL : L ≤ 2048) {oe_A mo_A : Nat} {ls : Array Slot} (hl : lv_has ls 4 [(0, .ref b), (1, .ref oe_A), (2, .ref mo_A), (3, .int (nI i))]) {ws : va_W} (hs : ST cI cJ cZ cS oe_A mo_A ws) {H : Heap} {locs : List Loc} (hP : va_P D vwCl ws H) (hD : va_D (fun q : Nat => s.heap.size ≤ q) ws) (hS : va_S (fun q : Nat => s.heap.size ≤ q) s.heap H locs) {cells slots : Nat} (hc : cells + 11 ≤ 600000 ∧ slots + 214 ≤ 7302250) {Q : State → Prop} (kk : ∀ (ws' : va_W) (H' : Heap) (locs' : List Loc), ST cI cJ cZ cS oe_A mo_A ws' → va_P D vwCl ws' H' → va_D (fun q : Nat => s.heap.size ≤ q) ws' → va_S (fun q : Nat => s.heap.size ≤ q) s.heap H' locs' → W p l e room_1 s m args below meth c H' locs' (cells + 11) (slots + 214) Q (F0 m 970 ls [])) : W p l e room_1 s m args below meth c H locs cells slots Q (F0 m 947 ls []) := by
  obtain ⟨hx, hb, hml, hown, hts, hG⟩ := id E
  have hA : ∀ q : Nat, s.heap.size ≤ q → (fun q : Nat => s.heap.size ≤ q) q := fun _ h => h
  have hbA : ¬ (fun q : Nat => s.heap.size ≤ q) b := Nat.not_le.mpr hbl0
  have hcs : cells ≤ room_1.cells ∧ slots ≤ room_1.slots := ⟨by show cells ≤ 600000; omega, by show slots ≤ 7302250; omega⟩
  have h_1 : vp_in (nI i + 1) L := by rw [nI_1]; exact vp_in_nI (by omega) (by omega)
  have h_2 : vp_in (nI i + 2) L := by rw [l_2, nI_add]; exact vp_in_nI (by omega) (by omega)
  have h_3 : vp_in (nI i + 3) L := by rw [l_3, nI_add]; exact vp_in_nI (by omega) (by omega)
  revert hP hD
  refine ST_el hs (G := fun ws => va_P D vwCl ws H → va_D (fun q : Nat => s.heap.size ≤ q) ws → W p l e room_1 s m args below meth c H locs cells slots Q (F0 m 947 ls [])) ?_
  intro oe_kept_A oe_standing_A pa_A pa_signs_A sc_A sh_A sh_looks_A sh_openBits_A bl_A bl_settings_A od_A od_quarters_A st_A st_talls_A st_pairs_A hw_A hw_cutsFrom_A hw_chosen_A pw_A pw_leaves_A pw_first_A mo_looks_A mo_period_A mo_shut_A mo_phase_A mo_quarters_A mo_tall_A mo_pairs_A mo_pad_A mo_cuts_A mo_at_A mo_first_A mo_kept_A mo_isKept_A oe_kept oe_standing pa_signs pa_count sc_people sc_bride sh_count sh_hands sh_looks sh_openBits bl_flash bl_settings od_tired od_quarters st_rows st_columns st_rise st_talls st_pairs st_changed hw_cutsFrom hw_chosen pw_leaves pw_first pw_people pw_count mo_people mo_shots mo_looks mo_bride mo_hands mo_period mo_shut mo_phase mo_flash mo_quarters mo_tired mo_rows mo_columns mo_rise mo_tall mo_pairs mo_pad mo_padMany mo_cuts mo_at mo_first mo_kept mo_isKept mo_keptAt mo_isWriting X0 X1 n c R C hpad hsh hbl hod hst hpw hk0 hk1 hP hD
  obtain ⟨r, f1, f2⟩ := pu_told hpad hsh hbl hod hst (xs (nI i + 1).toNatClampNeg)
  refine lv_aload_n (pc := 947) hx hb dL_law_947 rfl (lv_at hl 1 rfl) ?_
  refine lv_aload_n (pc := 948) hx hb dL_law_948 rfl (lv_at hl 0 rfl) ?_
  refine lv_iload_n (pc := 949) hx hb dL_law_949 rfl (lv_at hl 3 rfl) ?_
  refine lv_iconst (pc := 950) (v := (1 : Int32)) hx hb dL_law_950 (by decide) ?_
  refine lv_iadd (pc := 951) hx hb dL_law_951 ?_
  refine va_sld (pc := 952) hx hb hX hbl0 hbA hS h_1 dL_law_952 ?_
  refine ro_Vi (pc := 953) (rest := []) E (c_X8_told l D cI cJ cZ cS oe_A oe_kept_A oe_standing_A pa_A pa_signs_A sc_A sh_A sh_looks_A sh_openBits_A bl_A bl_settings_A od_A od_quarters_A st_A st_talls_A st_pairs_A hw_A hw_cutsFrom_A hw_chosen_A pw_A pw_leaves_A pw_first_A oe_kept oe_standing pa_signs pa_count sc_people sc_bride sh_count sh_hands sh_looks sh_openBits bl_flash bl_settings od_tired od_quarters st_rows st_columns st_rise st_talls st_pairs st_changed hw_cutsFrom hw_chosen pw_leaves pw_first pw_people pw_count (xs (nI i + 1).toNatClampNeg) r f1) F_X8_told rfl rfl tw_689 tw_690 tw_691 hP.left ⟨by decide, by decide⟩ rfl hl.1 (Nat.le_of_ble_eq_true rfl) hcs rfl dL_law_953 ?_
  refine lv_aload_n (pc := 956) hx hb dL_law_956 rfl (lv_at hl 2 rfl) ?_
  refine lv_aload_n (pc := 957) hx hb dL_law_957 rfl (lv_at hl 0 rfl) ?_
  refine lv_iload_n (pc := 958) hx hb dL_law_958 rfl (lv_at hl 3 rfl) ?_
  refine lv_iconst (pc := 959) (v := (1 : Int32)) hx hb dL_law_959 (by decide) ?_
  refine lv_iadd (pc := 960) hx hb dL_law_960 ?_
  refine va_sld (pc := 961) hx hb hX hbl0 hbA hS h_1 dL_law_961 ?_
  refine ro_Vi (pc := 962) (rest := [.int r]) E (c_X9_told l D cI cJ cZ cS mo_A mo_looks_A mo_period_A mo_shut_A mo_phase_A mo_quarters_A mo_tall_A mo_pairs_A mo_pad_A mo_cuts_A mo_at_A mo_first_A mo_kept_A mo_isKept_A mo_people mo_shots mo_looks mo_bride mo_hands mo_period mo_shut mo_phase mo_flash mo_quarters mo_tired mo_rows mo_columns mo_rise mo_tall mo_pairs mo_pad mo_padMany mo_cuts mo_at mo_first mo_kept mo_isKept mo_keptAt mo_isWriting (xs (nI i + 1).toNatClampNeg) r f2) F_X9_told rfl rfl tw_1036 tw_1037 tw_1038 hP.right.left ⟨by decide, by decide⟩ rfl hl.1 (Nat.le_of_ble_eq_true rfl) hcs rfl dL_law_962 ?_
  refine lv_icmp_eq (pc := 965) (tgt := 970) hx hb dL_law_965 (by decide) (fun _ => ?_) (fun hne => absurd rfl hne)
  refine W.widen (k := cells + 11) (n := slots + 214) (by omega) (by omega) ?_
  exact kk _ H locs (ST_mk cI cJ cZ cS oe_A mo_A oe_kept_A oe_standing_A pa_A pa_signs_A sc_A sh_A sh_looks_A sh_openBits_A bl_A bl_settings_A od_A od_quarters_A st_A st_talls_A st_pairs_A hw_A hw_cutsFrom_A hw_chosen_A pw_A pw_leaves_A pw_first_A mo_looks_A mo_period_A mo_shut_A mo_phase_A mo_quarters_A mo_tall_A mo_pairs_A mo_pad_A mo_cuts_A mo_at_A mo_first_A mo_kept_A mo_isKept_A oe_kept oe_standing pa_signs pa_count sc_people sc_bride sh_count sh_hands sh_looks sh_openBits bl_flash bl_settings od_tired od_quarters st_rows st_columns st_rise st_talls st_pairs st_changed hw_cutsFrom hw_chosen pw_leaves pw_first pw_people pw_count mo_people mo_shots mo_looks mo_bride mo_hands mo_period mo_shut mo_phase mo_flash mo_quarters mo_tired mo_rows mo_columns mo_rise mo_tall mo_pairs mo_pad mo_padMany mo_cuts mo_at mo_first mo_kept mo_isKept mo_keptAt mo_isWriting X0 X1 n c R C hpad hsh hbl hod hst hpw hk0 hk1) hP hD hS
