theorem F_X6_startPeople : CalF yX6_startPeople cX6_startPeople 1 none 0 := ⟨tw_227, tw_4, by decide +kernel⟩
set_option maxRecDepth 100000 in
set_option maxHeartbeats 4000000 in
theorem c_X6_startPeople (l : Launch) (D : va_G) (cI cJ cZ cS : ClassId) (sh_A sh_looks_A sh_openBits_A : Nat) (sh_count : Int32) (sh_hands : Int32) (sh_looks : Nat → Int32) (sh_openBits : Nat → Int32) (sz : Nat) (r_sh_count : Int32) (r_sh_hands : Int32) (hf : f_X6_startPeople = some (r_sh_count, r_sh_hands)) : RwC l D cI cJ cZ cS yX6_startPeople cX6_startPeople 1 none 0 0 (w_X6 cI cJ cZ cS sh_A sh_looks_A sh_openBits_A sh_count sh_hands sh_looks sh_openBits) sz [.ref sh_A] none (w_X6 cI cJ cZ cS sh_A sh_looks_A sh_openBits_A r_sh_count r_sh_hands sh_looks sh_openBits) := by
  refine rw_in_v (own := RX6) (by decide +kernel) rfl (Nat.le_of_ble_eq_true rfl) ?_
  intro p e s m args below meth c ls Q A E hA hQ hP hD hS hl
  obtain ⟨hx, hb, hml, hown, hts, hK, hN, hAO⟩ := id E
  have hl : lv_has ls 1 [(0, .ref sh_A)] := hl
  unfold f_X6_startPeople at hf
  obtain ⟨H, hH⟩ : ∃ H, H = s.heap := ⟨_, rfl⟩
  obtain ⟨locs, hlocs⟩ : ∃ L : List Loc, L = [] := ⟨_, rfl⟩
  rw [show W p l e (roR 0 0) s m args below meth c s.heap [] 0 0 Q (F0 m 0 ls []) = W p l e (roR 0 0) s m args below meth c H locs 0 0 Q (F0 m 0 ls []) by rw [hH, hlocs]]
  replace hS : va_S A s.heap H locs := by rw [hH, hlocs]; exact hS
  replace hP : va_P D vwCl (w_X6 cI cJ cZ cS sh_A sh_looks_A sh_openBits_A sh_count sh_hands sh_looks sh_openBits) H := by rw [hH]; exact hP
  clear hH hlocs
  refine lv_aload_n (pc := 0) hx hb dX6_startPeople_0 rfl (lv_at hl 0 rfl) ?_
  refine lv_iconst (pc := 1) (v := (0 : Int32)) hx hb dX6_startPeople_1 (by decide) ?_
  refine va_put (pc := 2) (D := D) (ci := 6) (v := .int (0 : Int32)) (ty := .int) (C := RX6) (T := TX6) (N := 4) hx hb hts inG6 tyX6 tyX6_ok nmX6 hown hK hP hD hS 0 rfl rfl 0 (by decide) (hts _ tw_49) (fun _ h9 => h9) rfl (by decide +kernel) rfl rfl (Nat.le_of_ble_eq_true rfl) dX6_startPeople_2 (fun H locs hP hD hS => ?_)
  have hP : va_P D vwCl (w_X6 cI cJ cZ cS sh_A sh_looks_A sh_openBits_A (0 : Int32) sh_hands sh_looks sh_openBits) H := hP
  have hD : va_D A (w_X6 cI cJ cZ cS sh_A sh_looks_A sh_openBits_A (0 : Int32) sh_hands sh_looks sh_openBits) := hD
  refine lv_aload_n (pc := 5) hx hb dX6_startPeople_5 rfl (lv_at hl 0 rfl) ?_
  refine lv_iconst (pc := 6) (v := (0 : Int32)) hx hb dX6_startPeople_6 (by decide) ?_
  refine va_put (pc := 7) (D := D) (ci := 6) (v := .int (0 : Int32)) (ty := .int) (C := RX6) (T := TX6) (N := 4) hx hb hts inG6 tyX6 tyX6_ok nmX6 hown hK hP hD hS 0 rfl rfl 1 (by decide) (hts _ tw_52) (fun _ h9 => h9) rfl (by decide +kernel) rfl rfl (Nat.le_of_ble_eq_true rfl) dX6_startPeople_7 (fun H locs hP hD hS => ?_)
  have hP : va_P D vwCl (w_X6 cI cJ cZ cS sh_A sh_looks_A sh_openBits_A (0 : Int32) (0 : Int32) sh_looks sh_openBits) H := hP
  have hD : va_D A (w_X6 cI cJ cZ cS sh_A sh_looks_A sh_openBits_A (0 : Int32) (0 : Int32) sh_looks sh_openBits) := hD
  cases hf
  exact hQ _ _ _ _ dX6_startPeople_10 hP hD hS
theorem F_X6_copyFrom : CalF yX6_copyFrom cX6_copyFrom 2 none 1 := ⟨tw_666, tw_4, by decide +kernel⟩
set_option maxRecDepth 100000 in
set_option maxHeartbeats 4000000 in
theorem c_X6_copyFrom (l : Launch) (D : va_G) (cI cJ cZ cS : ClassId) (sh_A sh_looks_A sh_openBits_A sh2_A sh2_looks_A sh2_openBits_A : Nat) (sh_count : Int32) (sh_hands : Int32) (sh_looks : Nat → Int32) (sh_openBits : Nat → Int32) (sh2_count : Int32) (sh2_hands : Int32) (sh2_looks : Nat → Int32) (sh2_openBits : Nat → Int32) (sz : Nat) (r_sh_count : Int32) (r_sh_hands : Int32) (r_sh_looks : Nat → Int32) (r_sh_openBits : Nat → Int32) (hf : f_X6_copyFrom sh_looks sh_openBits sh2_count sh2_hands sh2_looks sh2_openBits = some (r_sh_count, r_sh_hands, r_sh_looks, r_sh_openBits)) : RwC l D cI cJ cZ cS yX6_copyFrom cX6_copyFrom 2 none 1 64 (w_X6X6 cI cJ cZ cS sh_A sh_looks_A sh_openBits_A sh2_A sh2_looks_A sh2_openBits_A sh_count sh_hands sh_looks sh_openBits sh2_count sh2_hands sh2_looks sh2_openBits) sz [.ref sh_A, .ref sh2_A] none (w_X6X6 cI cJ cZ cS sh_A sh_looks_A sh_openBits_A sh2_A sh2_looks_A sh2_openBits_A r_sh_count r_sh_hands r_sh_looks r_sh_openBits sh2_count sh2_hands sh2_looks sh2_openBits) := by
  refine rw_in_v (own := RX6) (by decide +kernel) rfl (Nat.le_of_ble_eq_true rfl) ?_
  intro p e s m args below meth c ls Q A E hA hQ hP hD hS hl
  obtain ⟨hx, hb, hml, hown, hts, hK, hN, hAO⟩ := id E
  have hl : lv_has ls 2 [(0, .ref sh_A), (1, .ref sh2_A)] := hl
  unfold f_X6_copyFrom at hf
  obtain ⟨H, hH⟩ : ∃ H, H = s.heap := ⟨_, rfl⟩
  obtain ⟨locs, hlocs⟩ : ∃ L : List Loc, L = [] := ⟨_, rfl⟩
  rw [show W p l e (roR 1 64) s m args below meth c s.heap [] 0 0 Q (F0 m 0 ls []) = W p l e (roR 1 64) s m args below meth c H locs 0 0 Q (F0 m 0 ls []) by rw [hH, hlocs]]
  replace hS : va_S A s.heap H locs := by rw [hH, hlocs]; exact hS
  replace hP : va_P D vwCl (w_X6X6 cI cJ cZ cS sh_A sh_looks_A sh_openBits_A sh2_A sh2_looks_A sh2_openBits_A sh_count sh_hands sh_looks sh_openBits sh2_count sh2_hands sh2_looks sh2_openBits) H := by rw [hH]; exact hP
  clear hH hlocs
  refine lv_aload_n (pc := 0) hx hb dX6_copyFrom_0 rfl (lv_at hl 0 rfl) ?_
  refine lv_aload_n (pc := 1) hx hb dX6_copyFrom_1 rfl (lv_at hl 1 rfl) ?_
  refine va_get (pc := 2) (D := D) (ci := 6) (v := .int sh2_count) (C := RX6) (T := TX6) (N := 4) hx hb hts inG6 hown hK hP 3 rfl rfl 0 (by decide) (hts _ tw_49) (fun _ h9 => h9) rfl dX6_copyFrom_2 ?_
  refine va_put (pc := 5) (D := D) (ci := 6) (v := .int sh2_count) (ty := .int) (C := RX6) (T := TX6) (N := 4) hx hb hts inG6 tyX6 tyX6_ok nmX6 hown hK hP hD hS 0 rfl rfl 0 (by decide) (hts _ tw_49) (fun _ h9 => h9) rfl (by decide +kernel) rfl rfl (Nat.le_of_ble_eq_true rfl) dX6_copyFrom_5 (fun H locs hP hD hS => ?_)
  have hP : va_P D vwCl (w_X6X6 cI cJ cZ cS sh_A sh_looks_A sh_openBits_A sh2_A sh2_looks_A sh2_openBits_A sh2_count sh_hands sh_looks sh_openBits sh2_count sh2_hands sh2_looks sh2_openBits) H := hP
  have hD : va_D A (w_X6X6 cI cJ cZ cS sh_A sh_looks_A sh_openBits_A sh2_A sh2_looks_A sh2_openBits_A sh2_count sh_hands sh_looks sh_openBits sh2_count sh2_hands sh2_looks sh2_openBits) := hD
  refine lv_aload_n (pc := 8) hx hb dX6_copyFrom_8 rfl (lv_at hl 0 rfl) ?_
  refine lv_aload_n (pc := 9) hx hb dX6_copyFrom_9 rfl (lv_at hl 1 rfl) ?_
  refine va_get (pc := 10) (D := D) (ci := 6) (v := .int sh2_hands) (C := RX6) (T := TX6) (N := 4) hx hb hts inG6 hown hK hP 3 rfl rfl 1 (by decide) (hts _ tw_52) (fun _ h9 => h9) rfl dX6_copyFrom_10 ?_
  refine va_put (pc := 13) (D := D) (ci := 6) (v := .int sh2_hands) (ty := .int) (C := RX6) (T := TX6) (N := 4) hx hb hts inG6 tyX6 tyX6_ok nmX6 hown hK hP hD hS 0 rfl rfl 1 (by decide) (hts _ tw_52) (fun _ h9 => h9) rfl (by decide +kernel) rfl rfl (Nat.le_of_ble_eq_true rfl) dX6_copyFrom_13 (fun H locs hP hD hS => ?_)
  have hP : va_P D vwCl (w_X6X6 cI cJ cZ cS sh_A sh_looks_A sh_openBits_A sh2_A sh2_looks_A sh2_openBits_A sh2_count sh2_hands sh_looks sh_openBits sh2_count sh2_hands sh2_looks sh2_openBits) H := hP
  have hD : va_D A (w_X6X6 cI cJ cZ cS sh_A sh_looks_A sh_openBits_A sh2_A sh2_looks_A sh2_openBits_A sh2_count sh2_hands sh_looks sh_openBits sh2_count sh2_hands sh2_looks sh2_openBits) := hD
  refine lv_aload_n (pc := 16) hx hb dX6_copyFrom_16 rfl (lv_at hl 1 rfl) ?_
  refine va_get (pc := 17) (D := D) (ci := 6) (v := .ref sh2_looks_A) (C := RX6) (T := TX6) (N := 4) hx hb hts inG6 hown hK hP 3 rfl rfl 2 (by decide) (hts _ tw_54) (fun _ h9 => h9) rfl dX6_copyFrom_17 ?_
  refine lv_iconst (pc := 20) (v := (0 : Int32)) hx hb dX6_copyFrom_20 (by decide) ?_
  refine lv_aload_n (pc := 21) hx hb dX6_copyFrom_21 rfl (lv_at hl 0 rfl) ?_
  refine va_get (pc := 22) (D := D) (ci := 6) (v := .ref sh_looks_A) (C := RX6) (T := TX6) (N := 4) hx hb hts inG6 hown hK hP 0 rfl rfl 2 (by decide) (hts _ tw_54) (fun _ h9 => h9) rfl dX6_copyFrom_22 ?_
  refine lv_iconst (pc := 25) (v := (0 : Int32)) hx hb dX6_copyFrom_25 (by decide) ?_
  refine lv_bipush (pc := 26) (v := (80 : Int32)) hx hb dX6_copyFrom_26 (by decide) ?_
  refine va_copyi (pc := 28) hx hb (E.2.2.1.trans hl.1.symm) hown (hts _ tw_667) (hts _ tw_669) (hts _ tw_668) (hts _ tw_13) hK hP hD hS 4 1 0 0 rfl rfl rfl rfl rfl (by decide) (by decide) (by decide) (by decide) (by decide) (fun _ _ => rfl) (by decide) (Nat.le_of_ble_eq_true rfl) dX6_copyFrom_28 (fun H locs hP hD hS => ?_)
  have hP : va_P D vwCl (w_X6X6 cI cJ cZ cS sh_A sh_looks_A sh_openBits_A sh2_A sh2_looks_A sh2_openBits_A sh2_count sh2_hands (va_cpy sh2_looks sh_looks 0 0 80) sh_openBits sh2_count sh2_hands sh2_looks sh2_openBits) H := hP
  have hD : va_D A (w_X6X6 cI cJ cZ cS sh_A sh_looks_A sh_openBits_A sh2_A sh2_looks_A sh2_openBits_A sh2_count sh2_hands (va_cpy sh2_looks sh_looks 0 0 80) sh_openBits sh2_count sh2_hands sh2_looks sh2_openBits) := hD
  refine lv_aload_n (pc := 31) hx hb dX6_copyFrom_31 rfl (lv_at hl 1 rfl) ?_
  refine va_get (pc := 32) (D := D) (ci := 6) (v := .ref sh2_openBits_A) (C := RX6) (T := TX6) (N := 4) hx hb hts inG6 hown hK hP 3 rfl rfl 3 (by decide) (hts _ tw_55) (fun _ h9 => h9) rfl dX6_copyFrom_32 ?_
  refine lv_iconst (pc := 35) (v := (0 : Int32)) hx hb dX6_copyFrom_35 (by decide) ?_
  refine lv_aload_n (pc := 36) hx hb dX6_copyFrom_36 rfl (lv_at hl 0 rfl) ?_
  refine va_get (pc := 37) (D := D) (ci := 6) (v := .ref sh_openBits_A) (C := RX6) (T := TX6) (N := 4) hx hb hts inG6 hown hK hP 0 rfl rfl 3 (by decide) (hts _ tw_55) (fun _ h9 => h9) rfl dX6_copyFrom_37 ?_
  refine lv_iconst (pc := 40) (v := (0 : Int32)) hx hb dX6_copyFrom_40 (by decide) ?_
  refine lv_bipush (pc := 41) (v := (10 : Int32)) hx hb dX6_copyFrom_41 (by decide) ?_
  refine va_copyi (pc := 43) hx hb (E.2.2.1.trans hl.1.symm) hown (hts _ tw_667) (hts _ tw_669) (hts _ tw_668) (hts _ tw_13) hK hP hD hS 5 2 0 0 rfl rfl rfl rfl rfl (by decide) (by decide) (by decide) (by decide) (by decide) (fun _ _ => rfl) (by decide) (Nat.le_of_ble_eq_true rfl) dX6_copyFrom_43 (fun H locs hP hD hS => ?_)
  have hP : va_P D vwCl (w_X6X6 cI cJ cZ cS sh_A sh_looks_A sh_openBits_A sh2_A sh2_looks_A sh2_openBits_A sh2_count sh2_hands (va_cpy sh2_looks sh_looks 0 0 80) (va_cpy sh2_openBits sh_openBits 0 0 10) sh2_count sh2_hands sh2_looks sh2_openBits) H := hP
  have hD : va_D A (w_X6X6 cI cJ cZ cS sh_A sh_looks_A sh_openBits_A sh2_A sh2_looks_A sh2_openBits_A sh2_count sh2_hands (va_cpy sh2_looks sh_looks 0 0 80) (va_cpy sh2_openBits sh_openBits 0 0 10) sh2_count sh2_hands sh2_looks sh2_openBits) := hD
  cases hf
  exact hQ _ _ _ _ dX6_copyFrom_46 hP hD hS
theorem F_X6_isFull : CalF yX6_isFull cX6_isFull 1 (some .boolean) 0 := ⟨tw_302, tw_4, by decide +kernel⟩
set_option maxRecDepth 100000 in
set_option maxHeartbeats 4000000 in
theorem c_X6_isFull (l : Launch) (D : va_G) (cI cJ cZ cS : ClassId) (sh_A sh_looks_A sh_openBits_A : Nat) (sh_count : Int32) (sh_hands : Int32) (sh_looks : Nat → Int32) (sh_openBits : Nat → Int32) (r : Int32) (hf : f_X6_isFull sh_count = some r) : RoC l D cI cJ cZ cS yX6_isFull cX6_isFull 1 (some .boolean) 0 0 (w_X6 cI cJ cZ cS sh_A sh_looks_A sh_openBits_A sh_count sh_hands sh_looks sh_openBits) [.ref sh_A] (some (.int r)) := by
  refine ro_in_z (own := RX6) (by decide +kernel) rfl (Nat.le_of_ble_eq_true rfl) ?_
  intro p e s m args below meth c ls Q E hQ hP hl
  obtain ⟨hx, hb, hml, hown, hts, hK, hN, hAO⟩ := id E
  have hl : lv_has ls 1 [(0, .ref sh_A)] := hl
  unfold f_X6_isFull at hf
  refine lv_aload_n (pc := 0) hx hb dX6_isFull_0 rfl (lv_at hl 0 rfl) ?_
  refine va_get (pc := 1) (D := D) (ci := 6) (v := .int sh_count) (C := RX6) (T := TX6) (N := 4) hx hb hts inG6 hown hK hP 0 rfl rfl 0 (by decide) (hts _ tw_49) (fun _ h9 => h9) rfl dX6_isFull_1 ?_
  refine lv_bipush (pc := 4) (v := (10 : Int32)) hx hb dX6_isFull_4 (by decide) ?_
  refine r_ic_lt (pc := 6) (tgt := 13) hx hb dX6_isFull_6 (by decide) hf (fun hf => ?_) (fun hf => ?_)
  · refine lv_iconst (pc := 13) (v := (0 : Int32)) hx hb dX6_isFull_13 (by decide) ?_
    exact hQ _ _ _ dX6_isFull_14 rfl hf
  · refine lv_iconst (pc := 9) (v := (1 : Int32)) hx hb dX6_isFull_9 (by decide) ?_
    refine lv_goto (pc := 10) (tgt := 14) hx hb dX6_isFull_10 (by decide) ?_
    exact hQ _ _ _ dX6_isFull_14 rfl hf
theorem F_X6_has : CalF yX6_has cX6_has 2 (some .boolean) 1 := ⟨tw_316, tw_4, by decide +kernel⟩
set_option maxRecDepth 100000 in
set_option maxHeartbeats 4000000 in
theorem c_X6_has (l : Launch) (D : va_G) (cI cJ cZ cS : ClassId) (sh_A sh_looks_A sh_openBits_A : Nat) (sh_count : Int32) (sh_hands : Int32) (sh_looks : Nat → Int32) (sh_openBits : Nat → Int32) (p1 : Int32) (r : Int32) (hf : f_X6_has sh_count p1 = some r) : RoC l D cI cJ cZ cS yX6_has cX6_has 2 (some .boolean) 0 0 (w_X6 cI cJ cZ cS sh_A sh_looks_A sh_openBits_A sh_count sh_hands sh_looks sh_openBits) [.ref sh_A, .int p1] (some (.int r)) := by
  refine ro_in_z (own := RX6) (by decide +kernel) rfl (Nat.le_of_ble_eq_true rfl) ?_
  intro p e s m args below meth c ls Q E hQ hP hl
  obtain ⟨hx, hb, hml, hown, hts, hK, hN, hAO⟩ := id E
  have hl : lv_has ls 2 [(0, .ref sh_A), (1, .int p1)] := hl
  unfold f_X6_has at hf
  refine lv_iload_n (pc := 0) hx hb dX6_has_0 rfl (lv_at hl 1 rfl) ?_
  refine r_if_lt (pc := 1) (tgt := 16) hx hb dX6_has_1 (by decide) hf (fun hf => ?_) (fun hf => ?_)
  · refine lv_iconst (pc := 16) (v := (0 : Int32)) hx hb dX6_has_16 (by decide) ?_
    exact hQ _ _ _ dX6_has_17 rfl hf
  · refine lv_iload_n (pc := 4) hx hb dX6_has_4 rfl (lv_at hl 1 rfl) ?_
    refine lv_aload_n (pc := 5) hx hb dX6_has_5 rfl (lv_at hl 0 rfl) ?_
    refine va_get (pc := 6) (D := D) (ci := 6) (v := .int sh_count) (C := RX6) (T := TX6) (N := 4) hx hb hts inG6 hown hK hP 0 rfl rfl 0 (by decide) (hts _ tw_49) (fun _ h9 => h9) rfl dX6_has_6 ?_
    refine r_ic_ge (pc := 9) (tgt := 16) hx hb dX6_has_9 (by decide) hf (fun hf => ?_) (fun hf => ?_)
    · refine lv_iconst (pc := 16) (v := (0 : Int32)) hx hb dX6_has_16 (by decide) ?_
      exact hQ _ _ _ dX6_has_17 rfl hf
    · refine lv_iconst (pc := 12) (v := (1 : Int32)) hx hb dX6_has_12 (by decide) ?_
      refine lv_goto (pc := 13) (tgt := 17) hx hb dX6_has_13 (by decide) ?_
      exact hQ _ _ _ dX6_has_17 rfl hf
theorem F_X6_take : CalF yX6_take cX6_take 6 (some .int) 2 := ⟨tw_306, tw_4, by decide +kernel⟩
set_option maxRecDepth 100000 in
set_option maxHeartbeats 4000000 in
theorem c_X6_take (l : Launch) (D : va_G) (cI cJ cZ cS : ClassId) (N : Nat) (sh_A sh_looks_A sh_openBits_A pa_A pa_signs_A : Nat) (sh_count : Int32) (sh_hands : Int32) (sh_looks : Nat → Int32) (sh_openBits : Nat → Int32) (pa_signs : Nat → Int32) (pa_count : Int32) (p2 : Int32) (sz : Nat) (r : Int32) (r_sh_count : Int32) (r_sh_looks : Nat → Int32) (r_sh_openBits : Nat → Int32) (hf : f_X6_take N sh_count sh_looks sh_openBits pa_signs pa_count p2 = some (r, r_sh_count, r_sh_looks, r_sh_openBits)) : RwC l D cI cJ cZ cS yX6_take cX6_take 6 (some .int) 1 21 (w_X6X3 cI cJ cZ cS sh_A sh_looks_A sh_openBits_A pa_A pa_signs_A sh_count sh_hands sh_looks sh_openBits pa_signs pa_count) sz [.ref sh_A, .ref pa_A, .int p2] (some (.int r)) (w_X6X3 cI cJ cZ cS sh_A sh_looks_A sh_openBits_A pa_A pa_signs_A r_sh_count sh_hands r_sh_looks r_sh_openBits pa_signs pa_count) := by
  refine rw_in_i (own := RX6) (by decide +kernel) rfl (Nat.le_of_ble_eq_true rfl) ?_
  intro p e s m args below meth c ls Q A E hA hQ hP hD hS hl
  obtain ⟨hx, hb, hml, hown, hts, hK, hN, hAO⟩ := id E
  have hl : lv_has ls 6 [(0, .ref sh_A), (1, .ref pa_A), (2, .int p2)] := hl
  unfold f_X6_take at hf
  obtain ⟨H, hH⟩ : ∃ H, H = s.heap := ⟨_, rfl⟩
  obtain ⟨locs, hlocs⟩ : ∃ L : List Loc, L = [] := ⟨_, rfl⟩
  rw [show W p l e (roR 1 21) s m args below meth c s.heap [] 0 0 Q (F0 m 0 ls []) = W p l e (roR 1 21) s m args below meth c H locs 0 0 Q (F0 m 0 ls []) by rw [hH, hlocs]]
  replace hS : va_S A s.heap H locs := by rw [hH, hlocs]; exact hS
  replace hP : va_P D vwCl (w_X6X3 cI cJ cZ cS sh_A sh_looks_A sh_openBits_A pa_A pa_signs_A sh_count sh_hands sh_looks sh_openBits pa_signs pa_count) H := by rw [hH]; exact hP
  clear hH hlocs
  refine lv_aload_n (pc := 0) hx hb dX6_take_0 rfl (lv_at hl 0 rfl) ?_
  obtain ⟨v1, hv1, hf⟩ := bd_e hf
  refine ro_Vi (pc := 1) (As := []) (rest := []) E (c_X6_isFull l D cI cJ cZ cS sh_A sh_looks_A sh_openBits_A sh_count sh_hands sh_looks sh_openBits v1 hv1) F_X6_isFull rfl rfl tw_307 tw_300 tw_301 (hP.subm [0, 1, 2] rfl) ⟨by decide, by decide⟩ rfl hl.1 (Nat.le_of_ble_eq_true rfl) ⟨by decide, by decide⟩ rfl dX6_take_1 ?_
  refine r_if_eq (pc := 4) (tgt := 10) hx hb dX6_take_4 (by decide) hf (fun hf => ?_) (fun hf => ?_)
  · refine lv_aload_n (pc := 10) hx hb dX6_take_10 rfl (lv_at hl 0 rfl) ?_
    refine va_get (pc := 11) (D := D) (ci := 6) (v := .int sh_count) (C := RX6) (T := TX6) (N := 4) hx hb hts inG6 hown hK hP 0 rfl rfl 0 (by decide) (hts _ tw_49) (fun _ h9 => h9) rfl dX6_take_11 ?_
    refine lv_istore_n (pc := 14) (lv' := [(3, .int sh_count), (0, .ref sh_A), (1, .ref pa_A), (2, .int p2)]) hx hb dX6_take_14 rfl hl (by decide) rfl (fun ls hl => ?_)
    refine lv_aload_n (pc := 15) hx hb dX6_take_15 rfl (lv_at hl 1 rfl) ?_
    refine va_get (pc := 16) (D := D) (ci := 6) (v := .ref sh_openBits_A) (C := RX6) (T := TX6) (N := 4) hx hb hts inG6 hown hK hP 0 rfl rfl 3 (by decide) (hts _ tw_55) (fun _ h9 => h9) rfl dX6_take_16 ?_
    refine lv_iload_n (pc := 19) hx hb dX6_take_19 rfl (lv_at hl 0 rfl) ?_
    refine lv_iconst (pc := 20) (v := (0 : Int32)) hx hb dX6_take_20 (by decide) ?_
    refine r_iast (pc := 21) hx hb hK hP hD hS 2 0 rfl rfl hf dX6_take_21 (fun sh_openBits_2 H locs hf hP hD hS => ?_)
    have hP : va_P D vwCl (w_X6X3 cI cJ cZ cS sh_A sh_looks_A sh_openBits_A pa_A pa_signs_A sh_count sh_hands sh_looks sh_openBits_2 pa_signs pa_count) H := hP
    have hD : va_D A (w_X6X3 cI cJ cZ cS sh_A sh_looks_A sh_openBits_A pa_A pa_signs_A sh_count sh_hands sh_looks sh_openBits_2 pa_signs pa_count) := hD
    refine lv_iconst (pc := 22) (v := (0 : Int32)) hx hb dX6_take_22 (by decide) ?_
    refine lv_istore (pc := 23) (lv' := [(4, .int (0 : Int32)), (3, .int sh_count), (0, .ref sh_A), (1, .ref pa_A), (2, .int p2)]) hx hb dX6_take_23 hl (by decide) rfl (fun ls hl => ?_)
    obtain ⟨k7, hk7, hf⟩ := lc2_e hf
    have K7 : ∀ (sh_looks_8 : Nat → Int32) (sh_openBits_9 : Nat → Int32) (H : Heap) (locs : List Loc) (ls : Array Slot), k7 sh_looks_8 sh_openBits_9 = some (r, r_sh_count, r_sh_looks, r_sh_openBits) → va_P D vwCl (w_X6X3 cI cJ cZ cS sh_A sh_looks_A sh_openBits_A pa_A pa_signs_A sh_count sh_hands sh_looks_8 sh_openBits_9 pa_signs pa_count) H → va_D A (w_X6X3 cI cJ cZ cS sh_A sh_looks_A sh_openBits_A pa_A pa_signs_A sh_count sh_hands sh_looks_8 sh_openBits_9 pa_signs pa_count) → va_S A s.heap H locs → lv_has ls 6 [(0, .ref sh_A), (3, .int sh_count)] → W p l e (roR 1 21) s m args below meth c H locs 0 0 Q (F0 m 79 ls []) := by
      intro sh_looks_8 sh_openBits_9 H locs ls hf hP hD hS hl
      rw [hk7] at hf
      refine lv_aload_n (pc := 79) hx hb dX6_take_79 rfl (lv_at hl 0 rfl) ?_
      refine lv_dup (pc := 80) hx hb dX6_take_80 rfl ?_
      refine va_get (pc := 81) (D := D) (ci := 6) (v := .int sh_count) (C := RX6) (T := TX6) (N := 4) hx hb hts inG6 hown hK hP 0 rfl rfl 0 (by decide) (hts _ tw_49) (fun _ h9 => h9) rfl dX6_take_81 ?_
      refine lv_iconst (pc := 84) (v := (1 : Int32)) hx hb dX6_take_84 (by decide) ?_
      refine lv_iadd (pc := 85) hx hb dX6_take_85 ?_
      refine va_put (pc := 86) (D := D) (ci := 6) (v := .int (sh_count + (1 : Int32))) (ty := .int) (C := RX6) (T := TX6) (N := 4) hx hb hts inG6 tyX6 tyX6_ok nmX6 hown hK hP hD hS 0 rfl rfl 0 (by decide) (hts _ tw_49) (fun _ h9 => h9) rfl (by decide +kernel) rfl rfl (Nat.le_of_ble_eq_true rfl) dX6_take_86 (fun H locs hP hD hS => ?_)
      have hP : va_P D vwCl (w_X6X3 cI cJ cZ cS sh_A sh_looks_A sh_openBits_A pa_A pa_signs_A (sh_count + (1 : Int32)) sh_hands sh_looks_8 sh_openBits_9 pa_signs pa_count) H := hP
      have hD : va_D A (w_X6X3 cI cJ cZ cS sh_A sh_looks_A sh_openBits_A pa_A pa_signs_A (sh_count + (1 : Int32)) sh_hands sh_looks_8 sh_openBits_9 pa_signs pa_count) := hD
      refine lv_iload_n (pc := 89) hx hb dX6_take_89 rfl (lv_at hl 1 rfl) ?_
      cases hf
      exact hQ _ _ _ _ _ dX6_take_90 rfl hP hD hS
    have L25 : ∀ (n : Nat), ∀ (y3 : Int32) (sh_looks_4 : Nat → Int32) (sh_openBits_5 : Nat → Int32) (H : Heap) (locs : List Loc) (ls : Array Slot), f_X6_take_L25 sh_count pa_signs pa_count p2 k7 n y3 sh_looks_4 sh_openBits_5 = some (r, r_sh_count, r_sh_looks, r_sh_openBits) → va_P D vwCl (w_X6X3 cI cJ cZ cS sh_A sh_looks_A sh_openBits_A pa_A pa_signs_A sh_count sh_hands sh_looks_4 sh_openBits_5 pa_signs pa_count) H → va_D A (w_X6X3 cI cJ cZ cS sh_A sh_looks_A sh_openBits_A pa_A pa_signs_A sh_count sh_hands sh_looks_4 sh_openBits_5 pa_signs pa_count) → va_S A s.heap H locs → lv_has ls 6 [(0, .ref sh_A), (1, .ref pa_A), (2, .int p2), (3, .int sh_count), (4, .int y3)] → W p l e (roR 1 21) s m args below meth c H locs 0 0 Q (F0 m 25 ls []) := by
      intro n
      induction n with
      | zero =>
        intro y3 sh_looks_4 sh_openBits_5 H locs ls hf
        rw [f_X6_take_L25] at hf
        cases hf
      | succ n ih =>
        intro y3 sh_looks_4 sh_openBits_5 H locs ls hf hP hD hS hl
        rw [f_X6_take_L25] at hf
        refine lv_iload (pc := 25) hx hb dX6_take_25 (lv_at hl 4 rfl) ?_
        refine lv_iload_n (pc := 27) hx hb dX6_take_27 rfl (lv_at hl 2 rfl) ?_
        refine r_ic_ge (pc := 28) (tgt := 79) hx hb dX6_take_28 (by decide) hf (fun hf => ?_) (fun hf => ?_)
        · exact K7 _ _ _ _ _ hf hP hD hS (lv_sub hl [0, 3] rfl)
        · refine lv_aload_n (pc := 31) hx hb dX6_take_31 rfl (lv_at hl 1 rfl) ?_
          refine lv_iload (pc := 32) hx hb dX6_take_32 (lv_at hl 4 rfl) ?_
          obtain ⟨v10, hv34, hf⟩ := bd_e hf
          refine ro_Vi (pc := 34) (As := [.int y3]) (rest := []) E (c_X3_signAt l D cI cJ cZ cS pa_A pa_signs_A pa_signs pa_count y3 v10 hv34) F_X3_signAt rfl rfl tw_308 tw_269 tw_270 (hP.subm [3, 4] rfl) ⟨by decide, by decide⟩ rfl hl.1 (Nat.le_of_ble_eq_true rfl) ⟨by decide, by decide⟩ rfl dX6_take_34 ?_
          refine lv_istore (pc := 37) (lv' := [(5, .int v10), (0, .ref sh_A), (1, .ref pa_A), (2, .int p2), (3, .int sh_count), (4, .int y3)]) hx hb dX6_take_37 hl (by decide) rfl (fun ls hl => ?_)
          refine lv_aload_n (pc := 39) hx hb dX6_take_39 rfl (lv_at hl 1 rfl) ?_
          refine va_get (pc := 40) (D := D) (ci := 6) (v := .ref sh_looks_A) (C := RX6) (T := TX6) (N := 4) hx hb hts inG6 hown hK hP 0 rfl rfl 2 (by decide) (hts _ tw_54) (fun _ h9 => h9) rfl dX6_take_40 ?_
          refine lv_iload_n (pc := 43) hx hb dX6_take_43 rfl (lv_at hl 4 rfl) ?_
          refine lv_bipush (pc := 44) (v := (8 : Int32)) hx hb dX6_take_44 (by decide) ?_
          refine lv_imul (pc := 46) hx hb dX6_take_46 ?_
          refine lv_iload (pc := 47) hx hb dX6_take_47 (lv_at hl 5 rfl) ?_
          refine lv_iadd (pc := 49) hx hb dX6_take_49 ?_
          refine lv_iload (pc := 50) hx hb dX6_take_50 (lv_at hl 0 rfl) ?_
          refine r_iast (pc := 52) hx hb hK hP hD hS 1 0 rfl rfl hf dX6_take_52 (fun sh_looks_11 H locs hf hP hD hS => ?_)
          have hP : va_P D vwCl (w_X6X3 cI cJ cZ cS sh_A sh_looks_A sh_openBits_A pa_A pa_signs_A sh_count sh_hands sh_looks_11 sh_openBits_5 pa_signs pa_count) H := hP
          have hD : va_D A (w_X6X3 cI cJ cZ cS sh_A sh_looks_A sh_openBits_A pa_A pa_signs_A sh_count sh_hands sh_looks_11 sh_openBits_5 pa_signs pa_count) := hD
          refine lv_iload (pc := 53) hx hb dX6_take_53 (lv_at hl 0 rfl) ?_
          refine lv_bipush (pc := 55) (v := (111 : Int32)) hx hb dX6_take_55 (by decide) ?_
          obtain ⟨k12, hk12, hf⟩ := lc1_e hf
          have K12 : ∀ (sh_openBits_15 : Nat → Int32) (H : Heap) (locs : List Loc) (ls : Array Slot), k12 sh_openBits_15 = some (r, r_sh_count, r_sh_looks, r_sh_openBits) → va_P D vwCl (w_X6X3 cI cJ cZ cS sh_A sh_looks_A sh_openBits_A pa_A pa_signs_A sh_count sh_hands sh_looks_11 sh_openBits_15 pa_signs pa_count) H → va_D A (w_X6X3 cI cJ cZ cS sh_A sh_looks_A sh_openBits_A pa_A pa_signs_A sh_count sh_hands sh_looks_11 sh_openBits_15 pa_signs pa_count) → va_S A s.heap H locs → lv_has ls 6 [(0, .ref sh_A), (1, .ref pa_A), (2, .int p2), (3, .int sh_count), (4, .int y3)] → W p l e (roR 1 21) s m args below meth c H locs 0 0 Q (F0 m 73 ls []) := by
            intro sh_openBits_15 H locs ls hf hP hD hS hl
            rw [hk12] at hf
            refine lv_iinc (pc := 73) (v := (y3 + (1 : Int32))) (lv' := [(4, .int (y3 + (1 : Int32))), (0, .ref sh_A), (1, .ref pa_A), (2, .int p2), (3, .int sh_count)]) hx hb dX6_take_73 hl (k := 4) rfl (by rfl) (by decide) rfl (fun ls hl => ?_)
            refine lv_goto (pc := 76) (tgt := 25) hx hb dX6_take_76 (by decide) ?_
            exact ih _ _ _ _ _ _ hf hP hD hS (lv_sub hl [1, 2, 3, 4, 0] rfl)
          refine r_ic_ne (pc := 57) (tgt := 73) hx hb dX6_take_57 (by decide) hf (fun hf => ?_) (fun hf => ?_)
          · exact K12 _ _ _ _ hf hP hD hS (lv_sub hl [1, 2, 3, 4, 5] rfl)
          · refine lv_aload_n (pc := 60) hx hb dX6_take_60 rfl (lv_at hl 1 rfl) ?_
            refine va_get (pc := 61) (D := D) (ci := 6) (v := .ref sh_openBits_A) (C := RX6) (T := TX6) (N := 4) hx hb hts inG6 hown hK hP 0 rfl rfl 3 (by decide) (hts _ tw_55) (fun _ h9 => h9) rfl dX6_take_61 ?_
            refine lv_iload_n (pc := 64) hx hb dX6_take_64 rfl (lv_at hl 4 rfl) ?_
            refine lv_dup2_11 (pc := 65) hx hb dX6_take_65 rfl rfl ?_
            refine r_iald (pc := 66) hx hb hK hP 2 0 rfl rfl hf dX6_take_66 (fun v13 hf => ?_)
            refine lv_iconst (pc := 67) (v := (1 : Int32)) hx hb dX6_take_67 (by decide) ?_
            refine lv_iload (pc := 68) hx hb dX6_take_68 (lv_at hl 5 rfl) ?_
            refine lv_ishl (pc := 70) hx hb dX6_take_70 ?_
            refine lv_ior (pc := 71) hx hb dX6_take_71 ?_
            refine r_iast (pc := 72) hx hb hK hP hD hS 2 0 rfl rfl hf dX6_take_72 (fun sh_openBits_14 H locs hf hP hD hS => ?_)
            have hP : va_P D vwCl (w_X6X3 cI cJ cZ cS sh_A sh_looks_A sh_openBits_A pa_A pa_signs_A sh_count sh_hands sh_looks_11 sh_openBits_14 pa_signs pa_count) H := hP
            have hD : va_D A (w_X6X3 cI cJ cZ cS sh_A sh_looks_A sh_openBits_A pa_A pa_signs_A sh_count sh_hands sh_looks_11 sh_openBits_14 pa_signs pa_count) := hD
            exact K12 _ _ _ _ hf hP hD hS (lv_sub hl [1, 2, 3, 4, 5] rfl)
    exact L25 N _ _ _ _ _ _ hf hP hD hS (lv_sub hl [2, 3, 4, 1, 0] rfl)
  · refine lv_bipush (pc := 7) (v := (-6 : Int32)) hx hb dX6_take_7 (by decide) ?_
    cases hf
    exact hQ _ _ _ _ _ dX6_take_9 rfl hP hD hS
theorem F_X6_lookOf : CalF yX6_lookOf cX6_lookOf 3 (some .int) 2 := ⟨tw_320, tw_4, by decide +kernel⟩
set_option maxRecDepth 100000 in
set_option maxHeartbeats 4000000 in
theorem c_X6_lookOf (l : Launch) (D : va_G) (cI cJ cZ cS : ClassId) (sh_A sh_looks_A sh_openBits_A : Nat) (sh_count : Int32) (sh_hands : Int32) (sh_looks : Nat → Int32) (sh_openBits : Nat → Int32) (p1 : Int32) (p2 : Int32) (r : Int32) (hf : f_X6_lookOf sh_looks p1 p2 = some r) : RoC l D cI cJ cZ cS yX6_lookOf cX6_lookOf 3 (some .int) 0 0 (w_X6 cI cJ cZ cS sh_A sh_looks_A sh_openBits_A sh_count sh_hands sh_looks sh_openBits) [.ref sh_A, .int p1, .int p2] (some (.int r)) := by
  refine ro_in_i (own := RX6) (by decide +kernel) rfl (Nat.le_of_ble_eq_true rfl) ?_
  intro p e s m args below meth c ls Q E hQ hP hl
  obtain ⟨hx, hb, hml, hown, hts, hK, hN, hAO⟩ := id E
  have hl : lv_has ls 3 [(0, .ref sh_A), (1, .int p1), (2, .int p2)] := hl
  unfold f_X6_lookOf at hf
  refine lv_aload_n (pc := 0) hx hb dX6_lookOf_0 rfl (lv_at hl 0 rfl) ?_
  refine va_get (pc := 1) (D := D) (ci := 6) (v := .ref sh_looks_A) (C := RX6) (T := TX6) (N := 4) hx hb hts inG6 hown hK hP 0 rfl rfl 2 (by decide) (hts _ tw_54) (fun _ h9 => h9) rfl dX6_lookOf_1 ?_
  refine lv_iload_n (pc := 4) hx hb dX6_lookOf_4 rfl (lv_at hl 1 rfl) ?_
  refine lv_bipush (pc := 5) (v := (8 : Int32)) hx hb dX6_lookOf_5 (by decide) ?_
  refine lv_imul (pc := 7) hx hb dX6_lookOf_7 ?_
  refine lv_iload_n (pc := 8) hx hb dX6_lookOf_8 rfl (lv_at hl 2 rfl) ?_
  refine lv_iadd (pc := 9) hx hb dX6_lookOf_9 ?_
  refine r_iald (pc := 10) hx hb hK hP 1 0 rfl rfl hf dX6_lookOf_10 (fun v1 hf => ?_)
  exact hQ _ _ _ dX6_lookOf_11 hf
theorem F_X6_isOpen : CalF yX6_isOpen cX6_isOpen 3 (some .boolean) 2 := ⟨tw_332, tw_4, by decide +kernel⟩
set_option maxRecDepth 100000 in
set_option maxHeartbeats 4000000 in
theorem c_X6_isOpen (l : Launch) (D : va_G) (cI cJ cZ cS : ClassId) (sh_A sh_looks_A sh_openBits_A : Nat) (sh_count : Int32) (sh_hands : Int32) (sh_looks : Nat → Int32) (sh_openBits : Nat → Int32) (p1 : Int32) (p2 : Int32) (r : Int32) (hf : f_X6_isOpen sh_openBits p1 p2 = some r) : RoC l D cI cJ cZ cS yX6_isOpen cX6_isOpen 3 (some .boolean) 0 0 (w_X6 cI cJ cZ cS sh_A sh_looks_A sh_openBits_A sh_count sh_hands sh_looks sh_openBits) [.ref sh_A, .int p1, .int p2] (some (.int r)) := by
  refine ro_in_z (own := RX6) (by decide +kernel) rfl (Nat.le_of_ble_eq_true rfl) ?_
  intro p e s m args below meth c ls Q E hQ hP hl
  obtain ⟨hx, hb, hml, hown, hts, hK, hN, hAO⟩ := id E
  have hl : lv_has ls 3 [(0, .ref sh_A), (1, .int p1), (2, .int p2)] := hl
  unfold f_X6_isOpen at hf
  refine lv_aload_n (pc := 0) hx hb dX6_isOpen_0 rfl (lv_at hl 0 rfl) ?_
  refine va_get (pc := 1) (D := D) (ci := 6) (v := .ref sh_openBits_A) (C := RX6) (T := TX6) (N := 4) hx hb hts inG6 hown hK hP 0 rfl rfl 3 (by decide) (hts _ tw_55) (fun _ h9 => h9) rfl dX6_isOpen_1 ?_
  refine lv_iload_n (pc := 4) hx hb dX6_isOpen_4 rfl (lv_at hl 1 rfl) ?_
  refine r_iald (pc := 5) hx hb hK hP 2 0 rfl rfl hf dX6_isOpen_5 (fun v1 hf => ?_)
  refine lv_iload_n (pc := 6) hx hb dX6_isOpen_6 rfl (lv_at hl 2 rfl) ?_
  refine lv_ishr (pc := 7) hx hb dX6_isOpen_7 ?_
  refine lv_iconst (pc := 8) (v := (1 : Int32)) hx hb dX6_isOpen_8 (by decide) ?_
  refine lv_iand (pc := 9) hx hb dX6_isOpen_9 ?_
  refine lv_iconst (pc := 10) (v := (1 : Int32)) hx hb dX6_isOpen_10 (by decide) ?_
  refine r_ic_ne (pc := 11) (tgt := 18) hx hb dX6_isOpen_11 (by decide) hf (fun hf => ?_) (fun hf => ?_)
  · refine lv_iconst (pc := 18) (v := (0 : Int32)) hx hb dX6_isOpen_18 (by decide) ?_
    exact hQ _ _ _ dX6_isOpen_19 rfl hf
  · refine lv_iconst (pc := 14) (v := (1 : Int32)) hx hb dX6_isOpen_14 (by decide) ?_
    refine lv_goto (pc := 15) (tgt := 19) hx hb dX6_isOpen_15 (by decide) ?_
    exact hQ _ _ _ dX6_isOpen_19 rfl hf
theorem F_X6_holdHands : CalF yX6_holdHands cX6_holdHands 2 (some .boolean) 1 := ⟨tw_402, tw_4, by decide +kernel⟩
set_option maxRecDepth 100000 in
set_option maxHeartbeats 4000000 in
theorem c_X6_holdHands (l : Launch) (D : va_G) (cI cJ cZ cS : ClassId) (sh_A sh_looks_A sh_openBits_A : Nat) (sh_count : Int32) (sh_hands : Int32) (sh_looks : Nat → Int32) (sh_openBits : Nat → Int32) (p1 : Int32) (r : Int32) (hf : f_X6_holdHands sh_hands p1 = some r) : RoC l D cI cJ cZ cS yX6_holdHands cX6_holdHands 2 (some .boolean) 0 0 (w_X6 cI cJ cZ cS sh_A sh_looks_A sh_openBits_A sh_count sh_hands sh_looks sh_openBits) [.ref sh_A, .int p1] (some (.int r)) := by
  refine ro_in_z (own := RX6) (by decide +kernel) rfl (Nat.le_of_ble_eq_true rfl) ?_
  intro p e s m args below meth c ls Q E hQ hP hl
  obtain ⟨hx, hb, hml, hown, hts, hK, hN, hAO⟩ := id E
  have hl : lv_has ls 2 [(0, .ref sh_A), (1, .int p1)] := hl
  unfold f_X6_holdHands at hf
  refine lv_aload_n (pc := 0) hx hb dX6_holdHands_0 rfl (lv_at hl 0 rfl) ?_
  refine va_get (pc := 1) (D := D) (ci := 6) (v := .int sh_hands) (C := RX6) (T := TX6) (N := 4) hx hb hts inG6 hown hK hP 0 rfl rfl 1 (by decide) (hts _ tw_52) (fun _ h9 => h9) rfl dX6_holdHands_1 ?_
  refine lv_iload_n (pc := 4) hx hb dX6_holdHands_4 rfl (lv_at hl 1 rfl) ?_
  refine lv_ishr (pc := 5) hx hb dX6_holdHands_5 ?_
  refine lv_iconst (pc := 6) (v := (1 : Int32)) hx hb dX6_holdHands_6 (by decide) ?_
  refine lv_iand (pc := 7) hx hb dX6_holdHands_7 ?_
  refine lv_iconst (pc := 8) (v := (1 : Int32)) hx hb dX6_holdHands_8 (by decide) ?_
  refine r_ic_ne (pc := 9) (tgt := 16) hx hb dX6_holdHands_9 (by decide) hf (fun hf => ?_) (fun hf => ?_)
  · refine lv_iconst (pc := 16) (v := (0 : Int32)) hx hb dX6_holdHands_16 (by decide) ?_
    exact hQ _ _ _ dX6_holdHands_17 rfl hf
  · refine lv_iconst (pc := 12) (v := (1 : Int32)) hx hb dX6_holdHands_12 (by decide) ?_
    refine lv_goto (pc := 13) (tgt := 17) hx hb dX6_holdHands_13 (by decide) ?_
    exact hQ _ _ _ dX6_holdHands_17 rfl hf
theorem F_X6_badIn : CalF yX6_badIn cX6_badIn 3 (some .int) 2 := ⟨tw_336, tw_4, by decide +kernel⟩
set_option maxRecDepth 100000 in
set_option maxHeartbeats 4000000 in
theorem c_X6_badIn (l : Launch) (D : va_G) (cI cJ cZ cS : ClassId) (sh_A sh_looks_A sh_openBits_A : Nat) (sh_count : Int32) (sh_hands : Int32) (sh_looks : Nat → Int32) (sh_openBits : Nat → Int32) (p1 : Int32) (p2 : Int32) (r : Int32) (hf : f_X6_badIn sh_openBits p1 p2 = some r) : RoC l D cI cJ cZ cS yX6_badIn cX6_badIn 3 (some .int) 1 20 (w_X6 cI cJ cZ cS sh_A sh_looks_A sh_openBits_A sh_count sh_hands sh_looks sh_openBits) [.ref sh_A, .int p1, .int p2] (some (.int r)) := by
  refine ro_in_i (own := RX6) (by decide +kernel) rfl (Nat.le_of_ble_eq_true rfl) ?_
  intro p e s m args below meth c ls Q E hQ hP hl
  obtain ⟨hx, hb, hml, hown, hts, hK, hN, hAO⟩ := id E
  have hl : lv_has ls 3 [(0, .ref sh_A), (1, .int p1), (2, .int p2)] := hl
  unfold f_X6_badIn at hf
  refine lv_iload_n (pc := 0) hx hb dX6_badIn_0 rfl (lv_at hl 2 rfl) ?_
  refine lv_aload_n (pc := 1) hx hb dX6_badIn_1 rfl (lv_at hl 0 rfl) ?_
  refine va_get (pc := 2) (D := D) (ci := 6) (v := .ref sh_openBits_A) (C := RX6) (T := TX6) (N := 4) hx hb hts inG6 hown hK hP 0 rfl rfl 3 (by decide) (hts _ tw_55) (fun _ h9 => h9) rfl dX6_badIn_2 ?_
  refine lv_iload_n (pc := 5) hx hb dX6_badIn_5 rfl (lv_at hl 1 rfl) ?_
  refine r_iald (pc := 6) hx hb hK hP 2 0 rfl rfl hf dX6_badIn_6 (fun v1 hf => ?_)
  refine lv_iconst (pc := 7) (v := (-1 : Int32)) hx hb dX6_badIn_7 (by decide) ?_
  refine lv_ixor (pc := 8) hx hb dX6_badIn_8 ?_
  refine lv_iand (pc := 9) hx hb dX6_badIn_9 ?_
  obtain ⟨v2, hv10, hf⟩ := bd_e hf
  refine ro_Si (pc := 10) (As := [.int (p2 &&& (v1 ^^^ (-1 : Int32)))]) (rest := []) E (c_J6_bitCount_0f7a4 l D cI cJ cZ cS (p2 &&& (v1 ^^^ (-1 : Int32))) v2 hv10) F_J6_bitCount_0f7a4 tw_337 tw_338  va_P_nil ⟨by decide, by decide⟩ rfl hl.1 (Nat.le_of_ble_eq_true rfl) ⟨by decide, by decide⟩ rfl dX6_badIn_10 ?_
  exact hQ _ _ _ dX6_badIn_13 hf
theorem F_X6_hiddenIn : CalF yX6_hiddenIn cX6_hiddenIn 5 (some .int) 2 := ⟨tw_346, tw_4, by decide +kernel⟩
set_option maxRecDepth 100000 in
set_option maxHeartbeats 4000000 in
theorem c_X6_hiddenIn (l : Launch) (D : va_G) (cI cJ cZ cS : ClassId) (N : Nat) (sh_A sh_looks_A sh_openBits_A : Nat) (sh_count : Int32) (sh_hands : Int32) (sh_looks : Nat → Int32) (sh_openBits : Nat → Int32) (p1 : Int32) (p2 : Int32) (r : Int32) (hf : f_X6_hiddenIn N sh_looks p1 p2 = some r) : RoC l D cI cJ cZ cS yX6_hiddenIn cX6_hiddenIn 5 (some .int) 1 22 (w_X6 cI cJ cZ cS sh_A sh_looks_A sh_openBits_A sh_count sh_hands sh_looks sh_openBits) [.ref sh_A, .int p1, .int p2] (some (.int r)) := by
  refine ro_in_i (own := RX6) (by decide +kernel) rfl (Nat.le_of_ble_eq_true rfl) ?_
  intro p e s m args below meth c ls Q E hQ hP hl
  obtain ⟨hx, hb, hml, hown, hts, hK, hN, hAO⟩ := id E
  have hl : lv_has ls 5 [(0, .ref sh_A), (1, .int p1), (2, .int p2)] := hl
  unfold f_X6_hiddenIn at hf
  refine lv_iconst (pc := 0) (v := (0 : Int32)) hx hb dX6_hiddenIn_0 (by decide) ?_
  refine lv_istore_n (pc := 1) (lv' := [(3, .int (0 : Int32)), (0, .ref sh_A), (1, .int p1), (2, .int p2)]) hx hb dX6_hiddenIn_1 rfl hl (by decide) rfl (fun ls hl => ?_)
  refine lv_iconst (pc := 2) (v := (0 : Int32)) hx hb dX6_hiddenIn_2 (by decide) ?_
  refine lv_istore (pc := 3) (lv' := [(4, .int (0 : Int32)), (3, .int (0 : Int32)), (0, .ref sh_A), (1, .int p1), (2, .int p2)]) hx hb dX6_hiddenIn_3 hl (by decide) rfl (fun ls hl => ?_)
  obtain ⟨k4, hk4, hf⟩ := lc1_e hf
  have K4 : ∀ (z5 : Int32) (ls : Array Slot), k4 z5 = some r → lv_has ls 5 [(3, .int z5)] → W p l e (roR 1 22) s m args below meth c s.heap [] 0 0 Q (F0 m 32 ls []) := by
    intro z5 ls hf hl
    rw [hk4] at hf
    refine lv_iload_n (pc := 32) hx hb dX6_hiddenIn_32 rfl (lv_at hl 0 rfl) ?_
    exact hQ _ _ _ dX6_hiddenIn_33 hf
  have L5 : ∀ (n : Nat), ∀ (y1 : Int32) (y2 : Int32) (ls : Array Slot), f_X6_hiddenIn_L5 sh_looks p1 p2 k4 n y1 y2 = some r → lv_has ls 5 [(0, .ref sh_A), (1, .int p1), (2, .int p2), (3, .int y1), (4, .int y2)] → W p l e (roR 1 22) s m args below meth c s.heap [] 0 0 Q (F0 m 5 ls []) := by
    intro n
    induction n with
    | zero =>
      intro y1 y2 ls hf
      rw [f_X6_hiddenIn_L5] at hf
      cases hf
    | succ n ih =>
      intro y1 y2 ls hf hl
      rw [f_X6_hiddenIn_L5] at hf
      refine lv_iload (pc := 5) hx hb dX6_hiddenIn_5 (lv_at hl 4 rfl) ?_
      refine lv_iload_n (pc := 7) hx hb dX6_hiddenIn_7 rfl (lv_at hl 2 rfl) ?_
      refine r_ic_ge (pc := 8) (tgt := 32) hx hb dX6_hiddenIn_8 (by decide) hf (fun hf => ?_) (fun hf => ?_)
      · exact K4 _ _ hf (lv_sub hl [3] rfl)
      · refine lv_aload_n (pc := 11) hx hb dX6_hiddenIn_11 rfl (lv_at hl 0 rfl) ?_
        refine lv_iload_n (pc := 12) hx hb dX6_hiddenIn_12 rfl (lv_at hl 1 rfl) ?_
        refine lv_iload (pc := 13) hx hb dX6_hiddenIn_13 (lv_at hl 4 rfl) ?_
        obtain ⟨v6, hv15, hf⟩ := bd_e hf
        refine ro_Vi (pc := 15) (As := [.int p1, .int y2]) (rest := []) E (c_X6_lookOf l D cI cJ cZ cS sh_A sh_looks_A sh_openBits_A sh_count sh_hands sh_looks sh_openBits p1 y2 v6 hv15) F_X6_lookOf rfl rfl tw_347 tw_318 tw_319 hP ⟨by decide, by decide⟩ rfl hl.1 (Nat.le_of_ble_eq_true rfl) ⟨by decide, by decide⟩ rfl dX6_hiddenIn_15 ?_
        refine lv_bipush (pc := 18) (v := (104 : Int32)) hx hb dX6_hiddenIn_18 (by decide) ?_
        obtain ⟨k7, hk7, hf⟩ := lc1_e hf
        have K7 : ∀ (x8 : Int32) (ls : Array Slot), k7 x8 = some r → lv_has ls 5 [(0, .ref sh_A), (1, .int p1), (2, .int p2), (3, .int x8), (4, .int y2)] → W p l e (roR 1 22) s m args below meth c s.heap [] 0 0 Q (F0 m 26 ls []) := by
          intro x8 ls hf hl
          rw [hk7] at hf
          refine lv_iinc (pc := 26) (v := (y2 + (1 : Int32))) (lv' := [(4, .int (y2 + (1 : Int32))), (0, .ref sh_A), (1, .int p1), (2, .int p2), (3, .int x8)]) hx hb dX6_hiddenIn_26 hl (k := 4) rfl (by rfl) (by decide) rfl (fun ls hl => ?_)
          refine lv_goto (pc := 29) (tgt := 5) hx hb dX6_hiddenIn_29 (by decide) ?_
          exact ih _ _ _ hf (lv_sub hl [1, 2, 3, 4, 0] rfl)
        refine r_ic_ne (pc := 20) (tgt := 26) hx hb dX6_hiddenIn_20 (by decide) hf (fun hf => ?_) (fun hf => ?_)
        · exact K7 _ _ hf hl
        · refine lv_iinc (pc := 23) (v := (y1 + (1 : Int32))) (lv' := [(3, .int (y1 + (1 : Int32))), (0, .ref sh_A), (1, .int p1), (2, .int p2), (4, .int y2)]) hx hb dX6_hiddenIn_23 hl (k := 3) rfl (by rfl) (by decide) rfl (fun ls hl => ?_)
          exact K7 _ _ hf (lv_sub hl [1, 2, 3, 0, 4] rfl)
  exact L5 N _ _ _ hf (lv_sub hl [2, 3, 4, 1, 0] rfl)
theorem F_X6_bestSingle : CalF yX6_bestSingle cX6_bestSingle 7 (some .int) 2 := ⟨tw_328, tw_4, by decide +kernel⟩
set_option maxRecDepth 100000 in
set_option maxHeartbeats 4000000 in
theorem c_X6_bestSingle (l : Launch) (D : va_G) (cI cJ cZ cS : ClassId) (N : Nat) (sh_A sh_looks_A sh_openBits_A : Nat) (sh_count : Int32) (sh_hands : Int32) (sh_looks : Nat → Int32) (sh_openBits : Nat → Int32) (p1 : Int32) (p2 : Int32) (r : Int32) (hf : f_X6_bestSingle N sh_count sh_looks sh_openBits p1 p2 = some r) : RoC l D cI cJ cZ cS yX6_bestSingle cX6_bestSingle 7 (some .int) 2 46 (w_X6 cI cJ cZ cS sh_A sh_looks_A sh_openBits_A sh_count sh_hands sh_looks sh_openBits) [.ref sh_A, .int p1, .int p2] (some (.int r)) := by
  refine ro_in_i (own := RX6) (by decide +kernel) rfl (Nat.le_of_ble_eq_true rfl) ?_
  intro p e s m args below meth c ls Q E hQ hP hl
  obtain ⟨hx, hb, hml, hown, hts, hK, hN, hAO⟩ := id E
  have hl : lv_has ls 7 [(0, .ref sh_A), (1, .int p1), (2, .int p2)] := hl
  unfold f_X6_bestSingle at hf
  refine lv_bipush (pc := 0) (v := (-6 : Int32)) hx hb dX6_bestSingle_0 (by decide) ?_
  refine lv_istore_n (pc := 2) (lv' := [(3, .int (-6 : Int32)), (0, .ref sh_A), (1, .int p1), (2, .int p2)]) hx hb dX6_bestSingle_2 rfl hl (by decide) rfl (fun ls hl => ?_)
  refine lv_iconst (pc := 3) (v := (0 : Int32)) hx hb dX6_bestSingle_3 (by decide) ?_
  refine lv_istore (pc := 4) (lv' := [(4, .int (0 : Int32)), (3, .int (-6 : Int32)), (0, .ref sh_A), (1, .int p1), (2, .int p2)]) hx hb dX6_bestSingle_4 hl (by decide) rfl (fun ls hl => ?_)
  refine lv_iconst (pc := 6) (v := (0 : Int32)) hx hb dX6_bestSingle_6 (by decide) ?_
  refine lv_istore (pc := 7) (lv' := [(5, .int (0 : Int32)), (4, .int (0 : Int32)), (3, .int (-6 : Int32)), (0, .ref sh_A), (1, .int p1), (2, .int p2)]) hx hb dX6_bestSingle_7 hl (by decide) rfl (fun ls hl => ?_)
  obtain ⟨k5, hk5, hf⟩ := lc1_e hf
  have K5 : ∀ (z6 : Int32) (ls : Array Slot), k5 z6 = some r → lv_has ls 7 [(3, .int z6)] → W p l e (roR 2 46) s m args below meth c s.heap [] 0 0 Q (F0 m 87 ls []) := by
    intro z6 ls hf hl
    rw [hk5] at hf
    refine lv_iload_n (pc := 87) hx hb dX6_bestSingle_87 rfl (lv_at hl 0 rfl) ?_
    exact hQ _ _ _ dX6_bestSingle_88 hf
  have L9 : ∀ (n : Nat), ∀ (y1 : Int32) (y2 : Int32) (y3 : Int32) (ls : Array Slot), f_X6_bestSingle_L9 sh_count sh_looks sh_openBits p1 p2 N k5 n y1 y2 y3 = some r → lv_has ls 7 [(0, .ref sh_A), (1, .int p1), (2, .int p2), (3, .int y1), (4, .int y2), (5, .int y3)] → W p l e (roR 2 46) s m args below meth c s.heap [] 0 0 Q (F0 m 9 ls []) := by
    intro n
    induction n with
    | zero =>
      intro y1 y2 y3 ls hf
      rw [f_X6_bestSingle_L9] at hf
      cases hf
    | succ n ih =>
      intro y1 y2 y3 ls hf hl
      rw [f_X6_bestSingle_L9] at hf
      refine lv_iload (pc := 9) hx hb dX6_bestSingle_9 (lv_at hl 5 rfl) ?_
      refine lv_aload_n (pc := 11) hx hb dX6_bestSingle_11 rfl (lv_at hl 0 rfl) ?_
      refine va_get (pc := 12) (D := D) (ci := 6) (v := .int sh_count) (C := RX6) (T := TX6) (N := 4) hx hb hts inG6 hown hK hP 0 rfl rfl 0 (by decide) (hts _ tw_49) (fun _ h9 => h9) rfl dX6_bestSingle_12 ?_
      refine r_ic_ge (pc := 15) (tgt := 87) hx hb dX6_bestSingle_15 (by decide) hf (fun hf => ?_) (fun hf => ?_)
      · exact K5 _ _ hf (lv_sub hl [3] rfl)
      · refine lv_iload_n (pc := 18) hx hb dX6_bestSingle_18 rfl (lv_at hl 2 rfl) ?_
        refine lv_bipush (pc := 19) (v := (-6 : Int32)) hx hb dX6_bestSingle_19 (by decide) ?_
        obtain ⟨k8, hk8, hf⟩ := lc2_e hf
        have K8 : ∀ (x13 : Int32) (x14 : Int32) (ls : Array Slot), k8 x13 x14 = some r → lv_has ls 7 [(0, .ref sh_A), (1, .int p1), (2, .int p2), (3, .int x13), (4, .int x14), (5, .int y3)] → W p l e (roR 2 46) s m args below meth c s.heap [] 0 0 Q (F0 m 81 ls []) := by
          intro x13 x14 ls hf hl
          rw [hk8] at hf
          refine lv_iinc (pc := 81) (v := (y3 + (1 : Int32))) (lv' := [(5, .int (y3 + (1 : Int32))), (0, .ref sh_A), (1, .int p1), (2, .int p2), (3, .int x13), (4, .int x14)]) hx hb dX6_bestSingle_81 hl (k := 5) rfl (by rfl) (by decide) rfl (fun ls hl => ?_)
          refine lv_goto (pc := 84) (tgt := 9) hx hb dX6_bestSingle_84 (by decide) ?_
          exact ih _ _ _ _ hf (lv_sub hl [1, 2, 3, 4, 5, 0] rfl)
        obtain ⟨k7, hk7, hf⟩ := lc0_e hf
        have K7 : ∀  (ls : Array Slot), k7 = some r → lv_has ls 7 [(0, .ref sh_A), (1, .int p1), (2, .int p2), (3, .int y1), (4, .int y2), (5, .int y3)] → W p l e (roR 2 46) s m args below meth c s.heap [] 0 0 Q (F0 m 37 ls []) := by
          intro  ls hf hl
          rw [hk7] at hf
          refine lv_aload_n (pc := 37) hx hb dX6_bestSingle_37 rfl (lv_at hl 0 rfl) ?_
          refine lv_iload (pc := 38) hx hb dX6_bestSingle_38 (lv_at hl 5 rfl) ?_
          refine lv_iconst (pc := 40) (v := (1 : Int32)) hx hb dX6_bestSingle_40 (by decide) ?_
          refine lv_iload_n (pc := 41) hx hb dX6_bestSingle_41 rfl (lv_at hl 1 rfl) ?_
          refine lv_ishl (pc := 42) hx hb dX6_bestSingle_42 ?_
          refine lv_iconst (pc := 43) (v := (1 : Int32)) hx hb dX6_bestSingle_43 (by decide) ?_
          refine lv_isub (pc := 44) hx hb dX6_bestSingle_44 ?_
          obtain ⟨v10, hv45, hf⟩ := bd_e hf
          refine ro_Vi (pc := 45) (As := [.int y3, .int (((1 : Int32) <<< (p1 &&& 31)) - (1 : Int32))]) (rest := []) E (c_X6_badIn l D cI cJ cZ cS sh_A sh_looks_A sh_openBits_A sh_count sh_hands sh_looks sh_openBits y3 (((1 : Int32) <<< (p1 &&& 31)) - (1 : Int32)) v10 hv45) F_X6_badIn rfl rfl tw_333 tw_334 tw_335 hP ⟨by decide, by decide⟩ rfl hl.1 (Nat.le_of_ble_eq_true rfl) ⟨by decide, by decide⟩ rfl dX6_bestSingle_45 ?_
          refine lv_bipush (pc := 48) (v := (9 : Int32)) hx hb dX6_bestSingle_48 (by decide) ?_
          refine lv_imul (pc := 50) hx hb dX6_bestSingle_50 ?_
          refine lv_aload_n (pc := 51) hx hb dX6_bestSingle_51 rfl (lv_at hl 0 rfl) ?_
          refine lv_iload (pc := 52) hx hb dX6_bestSingle_52 (lv_at hl 5 rfl) ?_
          refine lv_iload_n (pc := 54) hx hb dX6_bestSingle_54 rfl (lv_at hl 1 rfl) ?_
          obtain ⟨v11, hv55, hf⟩ := bd_e hf
          refine ro_Vi (pc := 55) (As := [.int y3, .int p1]) (rest := [.int (v10 * (9 : Int32))]) E (c_X6_hiddenIn l D cI cJ cZ cS N sh_A sh_looks_A sh_openBits_A sh_count sh_hands sh_looks sh_openBits y3 p1 v11 hv55) F_X6_hiddenIn rfl rfl tw_343 tw_344 tw_345 hP ⟨by decide, by decide⟩ rfl hl.1 (Nat.le_of_ble_eq_true rfl) ⟨by decide, by decide⟩ rfl dX6_bestSingle_55 ?_
          refine lv_iadd (pc := 58) hx hb dX6_bestSingle_58 ?_
          refine lv_istore (pc := 59) (lv' := [(6, .int ((v10 * (9 : Int32)) + v11)), (0, .ref sh_A), (1, .int p1), (2, .int p2), (3, .int y1), (4, .int y2), (5, .int y3)]) hx hb dX6_bestSingle_59 hl (by decide) rfl (fun ls hl => ?_)
          refine lv_iload_n (pc := 61) hx hb dX6_bestSingle_61 rfl (lv_at hl 4 rfl) ?_
          refine lv_bipush (pc := 62) (v := (-6 : Int32)) hx hb dX6_bestSingle_62 (by decide) ?_
          obtain ⟨k12, hk12, hf⟩ := lc0_e hf
          have K12 : ∀  (ls : Array Slot), k12 = some r → lv_has ls 7 [(0, .ref sh_A), (1, .int p1), (2, .int p2), (5, .int y3), (6, .int ((v10 * (9 : Int32)) + v11))] → W p l e (roR 2 46) s m args below meth c s.heap [] 0 0 Q (F0 m 74 ls []) := by
            intro  ls hf hl
            rw [hk12] at hf
            refine lv_iload (pc := 74) hx hb dX6_bestSingle_74 (lv_at hl 3 rfl) ?_
            refine lv_istore_n (pc := 76) (lv' := [(3, .int y3), (0, .ref sh_A), (1, .int p1), (2, .int p2), (5, .int y3), (6, .int ((v10 * (9 : Int32)) + v11))]) hx hb dX6_bestSingle_76 rfl hl (by decide) rfl (fun ls hl => ?_)
            refine lv_iload (pc := 77) hx hb dX6_bestSingle_77 (lv_at hl 5 rfl) ?_
            refine lv_istore (pc := 79) (lv' := [(4, .int ((v10 * (9 : Int32)) + v11)), (3, .int y3), (0, .ref sh_A), (1, .int p1), (2, .int p2), (5, .int y3), (6, .int ((v10 * (9 : Int32)) + v11))]) hx hb dX6_bestSingle_79 hl (by decide) rfl (fun ls hl => ?_)
            exact K8 _ _ _ hf (lv_sub hl [2, 3, 4, 1, 0, 5] rfl)
          refine r_ic_eq (pc := 64) (tgt := 74) hx hb dX6_bestSingle_64 (by decide) hf (fun hf => ?_) (fun hf => ?_)
          · exact K12  _ hf (lv_sub hl [1, 2, 3, 6, 0] rfl)
          · refine lv_iload (pc := 67) hx hb dX6_bestSingle_67 (lv_at hl 0 rfl) ?_
            refine lv_iload (pc := 69) hx hb dX6_bestSingle_69 (lv_at hl 5 rfl) ?_
            refine r_ic_ge (pc := 71) (tgt := 81) hx hb dX6_bestSingle_71 (by decide) hf (fun hf => ?_) (fun hf => ?_)
            · exact K8 _ _ _ hf (lv_sub hl [1, 2, 3, 4, 5, 6] rfl)
            · exact K12  _ hf (lv_sub hl [1, 2, 3, 6, 0] rfl)
        refine r_ic_eq (pc := 21) (tgt := 37) hx hb dX6_bestSingle_21 (by decide) hf (fun hf => ?_) (fun hf => ?_)
        · exact K7  _ hf hl
        · refine lv_aload_n (pc := 24) hx hb dX6_bestSingle_24 rfl (lv_at hl 0 rfl) ?_
          refine lv_iload (pc := 25) hx hb dX6_bestSingle_25 (lv_at hl 5 rfl) ?_
          refine lv_iload_n (pc := 27) hx hb dX6_bestSingle_27 rfl (lv_at hl 2 rfl) ?_
          obtain ⟨v9, hv28, hf⟩ := bd_e hf
          refine ro_Vi (pc := 28) (As := [.int y3, .int p2]) (rest := []) E (c_X6_isOpen l D cI cJ cZ cS sh_A sh_looks_A sh_openBits_A sh_count sh_hands sh_looks sh_openBits y3 p2 v9 hv28) F_X6_isOpen rfl rfl tw_329 tw_330 tw_331 hP ⟨by decide, by decide⟩ rfl hl.1 (Nat.le_of_ble_eq_true rfl) ⟨by decide, by decide⟩ rfl dX6_bestSingle_28 ?_
          refine r_if_ne (pc := 31) (tgt := 37) hx hb dX6_bestSingle_31 (by decide) hf (fun hf => ?_) (fun hf => ?_)
          · exact K7  _ hf hl
          · refine lv_goto (pc := 34) (tgt := 81) hx hb dX6_bestSingle_34 (by decide) ?_
            exact K8 _ _ _ hf hl
  exact L9 N _ _ _ _ hf (lv_sub hl [3, 4, 5, 2, 1, 0] rfl)
theorem F_X6_openInSome : CalF yX6_openInSome cX6_openInSome 4 (some .int) 1 := ⟨tw_364, tw_4, by decide +kernel⟩
set_option maxRecDepth 100000 in
set_option maxHeartbeats 4000000 in
theorem c_X6_openInSome (l : Launch) (D : va_G) (cI cJ cZ cS : ClassId) (N : Nat) (sh_A sh_looks_A sh_openBits_A : Nat) (sh_count : Int32) (sh_hands : Int32) (sh_looks : Nat → Int32) (sh_openBits : Nat → Int32) (p1 : Int32) (r : Int32) (hf : f_X6_openInSome N sh_count sh_openBits p1 = some r) : RoC l D cI cJ cZ cS yX6_openInSome cX6_openInSome 4 (some .int) 0 0 (w_X6 cI cJ cZ cS sh_A sh_looks_A sh_openBits_A sh_count sh_hands sh_looks sh_openBits) [.ref sh_A, .int p1] (some (.int r)) := by
  refine ro_in_i (own := RX6) (by decide +kernel) rfl (Nat.le_of_ble_eq_true rfl) ?_
  intro p e s m args below meth c ls Q E hQ hP hl
  obtain ⟨hx, hb, hml, hown, hts, hK, hN, hAO⟩ := id E
  have hl : lv_has ls 4 [(0, .ref sh_A), (1, .int p1)] := hl
  unfold f_X6_openInSome at hf
  refine lv_iconst (pc := 0) (v := (0 : Int32)) hx hb dX6_openInSome_0 (by decide) ?_
  refine lv_istore_n (pc := 1) (lv' := [(2, .int (0 : Int32)), (0, .ref sh_A), (1, .int p1)]) hx hb dX6_openInSome_1 rfl hl (by decide) rfl (fun ls hl => ?_)
  refine lv_iconst (pc := 2) (v := (0 : Int32)) hx hb dX6_openInSome_2 (by decide) ?_
  refine lv_istore_n (pc := 3) (lv' := [(3, .int (0 : Int32)), (2, .int (0 : Int32)), (0, .ref sh_A), (1, .int p1)]) hx hb dX6_openInSome_3 rfl hl (by decide) rfl (fun ls hl => ?_)
  obtain ⟨k4, hk4, hf⟩ := lc1_e hf
  have K4 : ∀ (z5 : Int32) (ls : Array Slot), k4 z5 = some r → lv_has ls 4 [(2, .int z5)] → W p l e (roR 0 0) s m args below meth c s.heap [] 0 0 Q (F0 m 36 ls []) := by
    intro z5 ls hf hl
    rw [hk4] at hf
    refine lv_iload_n (pc := 36) hx hb dX6_openInSome_36 rfl (lv_at hl 0 rfl) ?_
    exact hQ _ _ _ dX6_openInSome_37 hf
  have L4 : ∀ (n : Nat), ∀ (y1 : Int32) (y2 : Int32) (ls : Array Slot), f_X6_openInSome_L4 sh_count sh_openBits p1 k4 n y1 y2 = some r → lv_has ls 4 [(0, .ref sh_A), (1, .int p1), (2, .int y1), (3, .int y2)] → W p l e (roR 0 0) s m args below meth c s.heap [] 0 0 Q (F0 m 4 ls []) := by
    intro n
    induction n with
    | zero =>
      intro y1 y2 ls hf
      rw [f_X6_openInSome_L4] at hf
      cases hf
    | succ n ih =>
      intro y1 y2 ls hf hl
      rw [f_X6_openInSome_L4] at hf
      refine lv_iload_n (pc := 4) hx hb dX6_openInSome_4 rfl (lv_at hl 3 rfl) ?_
      refine lv_aload_n (pc := 5) hx hb dX6_openInSome_5 rfl (lv_at hl 0 rfl) ?_
      refine va_get (pc := 6) (D := D) (ci := 6) (v := .int sh_count) (C := RX6) (T := TX6) (N := 4) hx hb hts inG6 hown hK hP 0 rfl rfl 0 (by decide) (hts _ tw_49) (fun _ h9 => h9) rfl dX6_openInSome_6 ?_
      refine r_ic_ge (pc := 9) (tgt := 36) hx hb dX6_openInSome_9 (by decide) hf (fun hf => ?_) (fun hf => ?_)
      · exact K4 _ _ hf (lv_sub hl [2] rfl)
      · refine lv_iload_n (pc := 12) hx hb dX6_openInSome_12 rfl (lv_at hl 1 rfl) ?_
        refine lv_iload_n (pc := 13) hx hb dX6_openInSome_13 rfl (lv_at hl 3 rfl) ?_
        refine lv_ishr (pc := 14) hx hb dX6_openInSome_14 ?_
        refine lv_iconst (pc := 15) (v := (1 : Int32)) hx hb dX6_openInSome_15 (by decide) ?_
        refine lv_iand (pc := 16) hx hb dX6_openInSome_16 ?_
        refine lv_iconst (pc := 17) (v := (1 : Int32)) hx hb dX6_openInSome_17 (by decide) ?_
        obtain ⟨k6, hk6, hf⟩ := lc1_e hf
        have K6 : ∀ (x8 : Int32) (ls : Array Slot), k6 x8 = some r → lv_has ls 4 [(0, .ref sh_A), (1, .int p1), (2, .int x8), (3, .int y2)] → W p l e (roR 0 0) s m args below meth c s.heap [] 0 0 Q (F0 m 30 ls []) := by
          intro x8 ls hf hl
          rw [hk6] at hf
          refine lv_iinc (pc := 30) (v := (y2 + (1 : Int32))) (lv' := [(3, .int (y2 + (1 : Int32))), (0, .ref sh_A), (1, .int p1), (2, .int x8)]) hx hb dX6_openInSome_30 hl (k := 3) rfl (by rfl) (by decide) rfl (fun ls hl => ?_)
          refine lv_goto (pc := 33) (tgt := 4) hx hb dX6_openInSome_33 (by decide) ?_
          exact ih _ _ _ hf (lv_sub hl [1, 2, 3, 0] rfl)
        refine r_ic_ne (pc := 18) (tgt := 30) hx hb dX6_openInSome_18 (by decide) hf (fun hf => ?_) (fun hf => ?_)
        · exact K6 _ _ hf hl
        · refine lv_iload_n (pc := 21) hx hb dX6_openInSome_21 rfl (lv_at hl 2 rfl) ?_
          refine lv_aload_n (pc := 22) hx hb dX6_openInSome_22 rfl (lv_at hl 0 rfl) ?_
          refine va_get (pc := 23) (D := D) (ci := 6) (v := .ref sh_openBits_A) (C := RX6) (T := TX6) (N := 4) hx hb hts inG6 hown hK hP 0 rfl rfl 3 (by decide) (hts _ tw_55) (fun _ h9 => h9) rfl dX6_openInSome_23 ?_
          refine lv_iload_n (pc := 26) hx hb dX6_openInSome_26 rfl (lv_at hl 3 rfl) ?_
          refine r_iald (pc := 27) hx hb hK hP 2 0 rfl rfl hf dX6_openInSome_27 (fun v7 hf => ?_)
          refine lv_ior (pc := 28) hx hb dX6_openInSome_28 ?_
          refine lv_istore_n (pc := 29) (lv' := [(2, .int (y1 ||| v7)), (0, .ref sh_A), (1, .int p1), (3, .int y2)]) hx hb dX6_openInSome_29 rfl hl (by decide) rfl (fun ls hl => ?_)
          exact K6 _ _ hf (lv_sub hl [1, 2, 0, 3] rfl)
  exact L4 N _ _ _ hf (lv_sub hl [2, 3, 1, 0] rfl)
theorem F_X6_leastCover : CalF yX6_leastCover cX6_leastCover 6 (some .int) 1 := ⟨tw_360, tw_4, by decide +kernel⟩
set_option maxRecDepth 100000 in
set_option maxHeartbeats 4000000 in
theorem c_X6_leastCover (l : Launch) (D : va_G) (cI cJ cZ cS : ClassId) (N : Nat) (sh_A sh_looks_A sh_openBits_A : Nat) (sh_count : Int32) (sh_hands : Int32) (sh_looks : Nat → Int32) (sh_openBits : Nat → Int32) (p1 : Int32) (r : Int32) (hf : f_X6_leastCover N sh_count sh_openBits p1 = some r) : RoC l D cI cJ cZ cS yX6_leastCover cX6_leastCover 6 (some .int) 1 23 (w_X6 cI cJ cZ cS sh_A sh_looks_A sh_openBits_A sh_count sh_hands sh_looks sh_openBits) [.ref sh_A, .int p1] (some (.int r)) := by
  refine ro_in_i (own := RX6) (by decide +kernel) rfl (Nat.le_of_ble_eq_true rfl) ?_
  intro p e s m args below meth c ls Q E hQ hP hl
  obtain ⟨hx, hb, hml, hown, hts, hK, hN, hAO⟩ := id E
  have hl : lv_has ls 6 [(0, .ref sh_A), (1, .int p1)] := hl
  unfold f_X6_leastCover at hf
  refine lv_bipush (pc := 0) (v := (-6 : Int32)) hx hb dX6_leastCover_0 (by decide) ?_
  refine lv_istore_n (pc := 2) (lv' := [(2, .int (-6 : Int32)), (0, .ref sh_A), (1, .int p1)]) hx hb dX6_leastCover_2 rfl hl (by decide) rfl (fun ls hl => ?_)
  refine lv_bipush (pc := 3) (v := (11 : Int32)) hx hb dX6_leastCover_3 (by decide) ?_
  refine lv_istore_n (pc := 5) (lv' := [(3, .int (11 : Int32)), (2, .int (-6 : Int32)), (0, .ref sh_A), (1, .int p1)]) hx hb dX6_leastCover_5 rfl hl (by decide) rfl (fun ls hl => ?_)
  refine lv_iconst (pc := 6) (v := (1 : Int32)) hx hb dX6_leastCover_6 (by decide) ?_
  refine lv_istore (pc := 7) (lv' := [(4, .int (1 : Int32)), (3, .int (11 : Int32)), (2, .int (-6 : Int32)), (0, .ref sh_A), (1, .int p1)]) hx hb dX6_leastCover_7 hl (by decide) rfl (fun ls hl => ?_)
  obtain ⟨k5, hk5, hf⟩ := lc1_e hf
  have K5 : ∀ (z6 : Int32) (ls : Array Slot), k5 z6 = some r → lv_has ls 6 [(2, .int z6)] → W p l e (roR 1 23) s m args below meth c s.heap [] 0 0 Q (F0 m 55 ls []) := by
    intro z6 ls hf hl
    rw [hk5] at hf
    refine lv_iload_n (pc := 55) hx hb dX6_leastCover_55 rfl (lv_at hl 0 rfl) ?_
    exact hQ _ _ _ dX6_leastCover_56 hf
  have L9 : ∀ (n : Nat), ∀ (y1 : Int32) (y2 : Int32) (y3 : Int32) (ls : Array Slot), f_X6_leastCover_L9 sh_count sh_openBits p1 N k5 n y1 y2 y3 = some r → lv_has ls 6 [(0, .ref sh_A), (1, .int p1), (2, .int y1), (3, .int y2), (4, .int y3)] → W p l e (roR 1 23) s m args below meth c s.heap [] 0 0 Q (F0 m 9 ls []) := by
    intro n
    induction n with
    | zero =>
      intro y1 y2 y3 ls hf
      rw [f_X6_leastCover_L9] at hf
      cases hf
    | succ n ih =>
      intro y1 y2 y3 ls hf hl
      rw [f_X6_leastCover_L9] at hf
      refine lv_iload (pc := 9) hx hb dX6_leastCover_9 (lv_at hl 4 rfl) ?_
      refine lv_iconst (pc := 11) (v := (1 : Int32)) hx hb dX6_leastCover_11 (by decide) ?_
      refine lv_aload_n (pc := 12) hx hb dX6_leastCover_12 rfl (lv_at hl 0 rfl) ?_
      refine va_get (pc := 13) (D := D) (ci := 6) (v := .int sh_count) (C := RX6) (T := TX6) (N := 4) hx hb hts inG6 hown hK hP 0 rfl rfl 0 (by decide) (hts _ tw_49) (fun _ h9 => h9) rfl dX6_leastCover_13 ?_
      refine lv_ishl (pc := 16) hx hb dX6_leastCover_16 ?_
      refine r_ic_ge (pc := 17) (tgt := 55) hx hb dX6_leastCover_17 (by decide) hf (fun hf => ?_) (fun hf => ?_)
      · exact K5 _ _ hf (lv_sub hl [2] rfl)
      · refine lv_iload (pc := 20) hx hb dX6_leastCover_20 (lv_at hl 4 rfl) ?_
        obtain ⟨v7, hv22, hf⟩ := bd_e hf
        refine ro_Si (pc := 22) (As := [.int y3]) (rest := []) E (c_J6_bitCount_0f7a4 l D cI cJ cZ cS y3 v7 hv22) F_J6_bitCount_0f7a4 tw_337 tw_338  va_P_nil ⟨by decide, by decide⟩ rfl hl.1 (Nat.le_of_ble_eq_true rfl) ⟨by decide, by decide⟩ rfl dX6_leastCover_22 ?_
        refine lv_istore (pc := 25) (lv' := [(5, .int v7), (0, .ref sh_A), (1, .int p1), (2, .int y1), (3, .int y2), (4, .int y3)]) hx hb dX6_leastCover_25 hl (by decide) rfl (fun ls hl => ?_)
        refine lv_iload (pc := 27) hx hb dX6_leastCover_27 (lv_at hl 0 rfl) ?_
        refine lv_iload_n (pc := 29) hx hb dX6_leastCover_29 rfl (lv_at hl 4 rfl) ?_
        obtain ⟨k8, hk8, hf⟩ := lc2_e hf
        have K8 : ∀ (x10 : Int32) (x11 : Int32) (ls : Array Slot), k8 x10 x11 = some r → lv_has ls 6 [(0, .ref sh_A), (1, .int p1), (2, .int x10), (3, .int x11), (4, .int y3)] → W p l e (roR 1 23) s m args below meth c s.heap [] 0 0 Q (F0 m 49 ls []) := by
          intro x10 x11 ls hf hl
          rw [hk8] at hf
          refine lv_iinc (pc := 49) (v := (y3 + (1 : Int32))) (lv' := [(4, .int (y3 + (1 : Int32))), (0, .ref sh_A), (1, .int p1), (2, .int x10), (3, .int x11)]) hx hb dX6_leastCover_49 hl (k := 4) rfl (by rfl) (by decide) rfl (fun ls hl => ?_)
          refine lv_goto (pc := 52) (tgt := 9) hx hb dX6_leastCover_52 (by decide) ?_
          exact ih _ _ _ _ hf (lv_sub hl [1, 2, 3, 4, 0] rfl)
        refine r_ic_ge (pc := 30) (tgt := 49) hx hb dX6_leastCover_30 (by decide) hf (fun hf => ?_) (fun hf => ?_)
        · exact K8 _ _ _ hf (lv_sub hl [1, 2, 3, 4, 5] rfl)
        · refine lv_aload_n (pc := 33) hx hb dX6_leastCover_33 rfl (lv_at hl 1 rfl) ?_
          refine lv_iload (pc := 34) hx hb dX6_leastCover_34 (lv_at hl 5 rfl) ?_
          obtain ⟨v9, hv36, hf⟩ := bd_e hf
          refine ro_Vi (pc := 36) (As := [.int y3]) (rest := []) E (c_X6_openInSome l D cI cJ cZ cS N sh_A sh_looks_A sh_openBits_A sh_count sh_hands sh_looks sh_openBits y3 v9 hv36) F_X6_openInSome rfl rfl tw_361 tw_363 tp_2 hP ⟨by decide, by decide⟩ rfl hl.1 (Nat.le_of_ble_eq_true rfl) ⟨by decide, by decide⟩ rfl dX6_leastCover_36 ?_
          refine lv_iload_n (pc := 39) hx hb dX6_leastCover_39 rfl (lv_at hl 2 rfl) ?_
          refine r_ic_ne (pc := 40) (tgt := 49) hx hb dX6_leastCover_40 (by decide) hf (fun hf => ?_) (fun hf => ?_)
          · exact K8 _ _ _ hf (lv_sub hl [1, 2, 3, 4, 5] rfl)
          · refine lv_iload (pc := 43) hx hb dX6_leastCover_43 (lv_at hl 5 rfl) ?_
            refine lv_istore_n (pc := 45) (lv' := [(2, .int y3), (5, .int v7), (0, .ref sh_A), (1, .int p1), (3, .int y2), (4, .int y3)]) hx hb dX6_leastCover_45 rfl hl (by decide) rfl (fun ls hl => ?_)
            refine lv_iload (pc := 46) hx hb dX6_leastCover_46 (lv_at hl 1 rfl) ?_
            refine lv_istore_n (pc := 48) (lv' := [(3, .int v7), (2, .int y3), (5, .int v7), (0, .ref sh_A), (1, .int p1), (4, .int y3)]) hx hb dX6_leastCover_48 rfl hl (by decide) rfl (fun ls hl => ?_)
            exact K8 _ _ _ hf (lv_sub hl [3, 4, 1, 0, 5] rfl)
  exact L9 N _ _ _ _ hf (lv_sub hl [3, 4, 2, 1, 0] rfl)
theorem F_X6_timesBad : CalF yX6_timesBad cX6_timesBad 4 (some .int) 1 := ⟨tw_376, tw_4, by decide +kernel⟩
set_option maxRecDepth 100000 in
set_option maxHeartbeats 4000000 in
theorem c_X6_timesBad (l : Launch) (D : va_G) (cI cJ cZ cS : ClassId) (N : Nat) (sh_A sh_looks_A sh_openBits_A : Nat) (sh_count : Int32) (sh_hands : Int32) (sh_looks : Nat → Int32) (sh_openBits : Nat → Int32) (p1 : Int32) (r : Int32) (hf : f_X6_timesBad N sh_count sh_openBits p1 = some r) : RoC l D cI cJ cZ cS yX6_timesBad cX6_timesBad 4 (some .int) 1 22 (w_X6 cI cJ cZ cS sh_A sh_looks_A sh_openBits_A sh_count sh_hands sh_looks sh_openBits) [.ref sh_A, .int p1] (some (.int r)) := by
  refine ro_in_i (own := RX6) (by decide +kernel) rfl (Nat.le_of_ble_eq_true rfl) ?_
  intro p e s m args below meth c ls Q E hQ hP hl
  obtain ⟨hx, hb, hml, hown, hts, hK, hN, hAO⟩ := id E
  have hl : lv_has ls 4 [(0, .ref sh_A), (1, .int p1)] := hl
  unfold f_X6_timesBad at hf
  refine lv_iconst (pc := 0) (v := (0 : Int32)) hx hb dX6_timesBad_0 (by decide) ?_
  refine lv_istore_n (pc := 1) (lv' := [(2, .int (0 : Int32)), (0, .ref sh_A), (1, .int p1)]) hx hb dX6_timesBad_1 rfl hl (by decide) rfl (fun ls hl => ?_)
  refine lv_iconst (pc := 2) (v := (0 : Int32)) hx hb dX6_timesBad_2 (by decide) ?_
  refine lv_istore_n (pc := 3) (lv' := [(3, .int (0 : Int32)), (2, .int (0 : Int32)), (0, .ref sh_A), (1, .int p1)]) hx hb dX6_timesBad_3 rfl hl (by decide) rfl (fun ls hl => ?_)
  obtain ⟨k4, hk4, hf⟩ := lc1_e hf
  have K4 : ∀ (z5 : Int32) (ls : Array Slot), k4 z5 = some r → lv_has ls 4 [(2, .int z5)] → W p l e (roR 1 22) s m args below meth c s.heap [] 0 0 Q (F0 m 30 ls []) := by
    intro z5 ls hf hl
    rw [hk4] at hf
    refine lv_iload_n (pc := 30) hx hb dX6_timesBad_30 rfl (lv_at hl 0 rfl) ?_
    exact hQ _ _ _ dX6_timesBad_31 hf
  have L4 : ∀ (n : Nat), ∀ (y1 : Int32) (y2 : Int32) (ls : Array Slot), f_X6_timesBad_L4 sh_count sh_openBits p1 k4 n y1 y2 = some r → lv_has ls 4 [(0, .ref sh_A), (1, .int p1), (2, .int y1), (3, .int y2)] → W p l e (roR 1 22) s m args below meth c s.heap [] 0 0 Q (F0 m 4 ls []) := by
    intro n
    induction n with
    | zero =>
      intro y1 y2 ls hf
      rw [f_X6_timesBad_L4] at hf
      cases hf
    | succ n ih =>
      intro y1 y2 ls hf hl
      rw [f_X6_timesBad_L4] at hf
      refine lv_iload_n (pc := 4) hx hb dX6_timesBad_4 rfl (lv_at hl 3 rfl) ?_
      refine lv_aload_n (pc := 5) hx hb dX6_timesBad_5 rfl (lv_at hl 0 rfl) ?_
      refine va_get (pc := 6) (D := D) (ci := 6) (v := .int sh_count) (C := RX6) (T := TX6) (N := 4) hx hb hts inG6 hown hK hP 0 rfl rfl 0 (by decide) (hts _ tw_49) (fun _ h9 => h9) rfl dX6_timesBad_6 ?_
      refine r_ic_ge (pc := 9) (tgt := 30) hx hb dX6_timesBad_9 (by decide) hf (fun hf => ?_) (fun hf => ?_)
      · exact K4 _ _ hf (lv_sub hl [2] rfl)
      · refine lv_aload_n (pc := 12) hx hb dX6_timesBad_12 rfl (lv_at hl 0 rfl) ?_
        refine lv_iload_n (pc := 13) hx hb dX6_timesBad_13 rfl (lv_at hl 3 rfl) ?_
        refine lv_iload_n (pc := 14) hx hb dX6_timesBad_14 rfl (lv_at hl 1 rfl) ?_
        obtain ⟨v6, hv15, hf⟩ := bd_e hf
        refine ro_Vi (pc := 15) (As := [.int y2, .int p1]) (rest := []) E (c_X6_isOpen l D cI cJ cZ cS sh_A sh_looks_A sh_openBits_A sh_count sh_hands sh_looks sh_openBits y2 p1 v6 hv15) F_X6_isOpen rfl rfl tw_329 tw_330 tw_331 hP ⟨by decide, by decide⟩ rfl hl.1 (Nat.le_of_ble_eq_true rfl) ⟨by decide, by decide⟩ rfl dX6_timesBad_15 ?_
        obtain ⟨k7, hk7, hf⟩ := lc1_e hf
        have K7 : ∀ (x8 : Int32) (ls : Array Slot), k7 x8 = some r → lv_has ls 4 [(0, .ref sh_A), (1, .int p1), (2, .int x8), (3, .int y2)] → W p l e (roR 1 22) s m args below meth c s.heap [] 0 0 Q (F0 m 24 ls []) := by
          intro x8 ls hf hl
          rw [hk7] at hf
          refine lv_iinc (pc := 24) (v := (y2 + (1 : Int32))) (lv' := [(3, .int (y2 + (1 : Int32))), (0, .ref sh_A), (1, .int p1), (2, .int x8)]) hx hb dX6_timesBad_24 hl (k := 3) rfl (by rfl) (by decide) rfl (fun ls hl => ?_)
          refine lv_goto (pc := 27) (tgt := 4) hx hb dX6_timesBad_27 (by decide) ?_
          exact ih _ _ _ hf (lv_sub hl [1, 2, 3, 0] rfl)
        refine r_if_ne (pc := 18) (tgt := 24) hx hb dX6_timesBad_18 (by decide) hf (fun hf => ?_) (fun hf => ?_)
        · exact K7 _ _ hf hl
        · refine lv_iinc (pc := 21) (v := (y1 + (1 : Int32))) (lv' := [(2, .int (y1 + (1 : Int32))), (0, .ref sh_A), (1, .int p1), (3, .int y2)]) hx hb dX6_timesBad_21 hl (k := 2) rfl (by rfl) (by decide) rfl (fun ls hl => ?_)
          exact K7 _ _ hf (lv_sub hl [1, 2, 0, 3] rfl)
  exact L4 N _ _ _ hf (lv_sub hl [2, 3, 1, 0] rfl)
theorem F_X6_worstPerson : CalF yX6_worstPerson cX6_worstPerson 6 (some .int) 1 := ⟨tw_372, tw_4, by decide +kernel⟩
set_option maxRecDepth 100000 in
set_option maxHeartbeats 4000000 in
theorem c_X6_worstPerson (l : Launch) (D : va_G) (cI cJ cZ cS : ClassId) (N : Nat) (sh_A sh_looks_A sh_openBits_A : Nat) (sh_count : Int32) (sh_hands : Int32) (sh_looks : Nat → Int32) (sh_openBits : Nat → Int32) (p1 : Int32) (r : Int32) (hf : f_X6_worstPerson N sh_count sh_openBits p1 = some r) : RoC l D cI cJ cZ cS yX6_worstPerson cX6_worstPerson 6 (some .int) 2 45 (w_X6 cI cJ cZ cS sh_A sh_looks_A sh_openBits_A sh_count sh_hands sh_looks sh_openBits) [.ref sh_A, .int p1] (some (.int r)) := by
  refine ro_in_i (own := RX6) (by decide +kernel) rfl (Nat.le_of_ble_eq_true rfl) ?_
  intro p e s m args below meth c ls Q E hQ hP hl
  obtain ⟨hx, hb, hml, hown, hts, hK, hN, hAO⟩ := id E
  have hl : lv_has ls 6 [(0, .ref sh_A), (1, .int p1)] := hl
  unfold f_X6_worstPerson at hf
  refine lv_bipush (pc := 0) (v := (-6 : Int32)) hx hb dX6_worstPerson_0 (by decide) ?_
  refine lv_istore_n (pc := 2) (lv' := [(2, .int (-6 : Int32)), (0, .ref sh_A), (1, .int p1)]) hx hb dX6_worstPerson_2 rfl hl (by decide) rfl (fun ls hl => ?_)
  refine lv_iconst (pc := 3) (v := (0 : Int32)) hx hb dX6_worstPerson_3 (by decide) ?_
  refine lv_istore_n (pc := 4) (lv' := [(3, .int (0 : Int32)), (2, .int (-6 : Int32)), (0, .ref sh_A), (1, .int p1)]) hx hb dX6_worstPerson_4 rfl hl (by decide) rfl (fun ls hl => ?_)
  refine lv_iconst (pc := 5) (v := (0 : Int32)) hx hb dX6_worstPerson_5 (by decide) ?_
  refine lv_istore (pc := 6) (lv' := [(4, .int (0 : Int32)), (3, .int (0 : Int32)), (2, .int (-6 : Int32)), (0, .ref sh_A), (1, .int p1)]) hx hb dX6_worstPerson_6 hl (by decide) rfl (fun ls hl => ?_)
  obtain ⟨k5, hk5, hf⟩ := lc1_e hf
  have K5 : ∀ (z6 : Int32) (ls : Array Slot), k5 z6 = some r → lv_has ls 6 [(2, .int z6)] → W p l e (roR 2 45) s m args below meth c s.heap [] 0 0 Q (F0 m 40 ls []) := by
    intro z6 ls hf hl
    rw [hk5] at hf
    refine lv_iload_n (pc := 40) hx hb dX6_worstPerson_40 rfl (lv_at hl 0 rfl) ?_
    exact hQ _ _ _ dX6_worstPerson_41 hf
  have L8 : ∀ (n : Nat), ∀ (y1 : Int32) (y2 : Int32) (y3 : Int32) (ls : Array Slot), f_X6_worstPerson_L8 sh_count sh_openBits p1 N k5 n y1 y2 y3 = some r → lv_has ls 6 [(0, .ref sh_A), (1, .int p1), (2, .int y1), (3, .int y2), (4, .int y3)] → W p l e (roR 2 45) s m args below meth c s.heap [] 0 0 Q (F0 m 8 ls []) := by
    intro n
    induction n with
    | zero =>
      intro y1 y2 y3 ls hf
      rw [f_X6_worstPerson_L8] at hf
      cases hf
    | succ n ih =>
      intro y1 y2 y3 ls hf hl
      rw [f_X6_worstPerson_L8] at hf
      refine lv_iload (pc := 8) hx hb dX6_worstPerson_8 (lv_at hl 4 rfl) ?_
      refine lv_iload_n (pc := 10) hx hb dX6_worstPerson_10 rfl (lv_at hl 1 rfl) ?_
      refine r_ic_ge (pc := 11) (tgt := 40) hx hb dX6_worstPerson_11 (by decide) hf (fun hf => ?_) (fun hf => ?_)
      · exact K5 _ _ hf (lv_sub hl [2] rfl)
      · refine lv_aload_n (pc := 14) hx hb dX6_worstPerson_14 rfl (lv_at hl 0 rfl) ?_
        refine lv_iload (pc := 15) hx hb dX6_worstPerson_15 (lv_at hl 4 rfl) ?_
        obtain ⟨v7, hv17, hf⟩ := bd_e hf
        refine ro_Vi (pc := 17) (As := [.int y3]) (rest := []) E (c_X6_timesBad l D cI cJ cZ cS N sh_A sh_looks_A sh_openBits_A sh_count sh_hands sh_looks sh_openBits y3 v7 hv17) F_X6_timesBad rfl rfl tw_373 tw_374 tw_375 hP ⟨by decide, by decide⟩ rfl hl.1 (Nat.le_of_ble_eq_true rfl) ⟨by decide, by decide⟩ rfl dX6_worstPerson_17 ?_
        refine lv_istore (pc := 20) (lv' := [(5, .int v7), (0, .ref sh_A), (1, .int p1), (2, .int y1), (3, .int y2), (4, .int y3)]) hx hb dX6_worstPerson_20 hl (by decide) rfl (fun ls hl => ?_)
        refine lv_iload (pc := 22) hx hb dX6_worstPerson_22 (lv_at hl 0 rfl) ?_
        refine lv_iload_n (pc := 24) hx hb dX6_worstPerson_24 rfl (lv_at hl 4 rfl) ?_
        obtain ⟨k8, hk8, hf⟩ := lc2_e hf
        have K8 : ∀ (x9 : Int32) (x10 : Int32) (ls : Array Slot), k8 x9 x10 = some r → lv_has ls 6 [(0, .ref sh_A), (1, .int p1), (2, .int x9), (3, .int x10), (4, .int y3)] → W p l e (roR 2 45) s m args below meth c s.heap [] 0 0 Q (F0 m 34 ls []) := by
          intro x9 x10 ls hf hl
          rw [hk8] at hf
          refine lv_iinc (pc := 34) (v := (y3 + (1 : Int32))) (lv' := [(4, .int (y3 + (1 : Int32))), (0, .ref sh_A), (1, .int p1), (2, .int x9), (3, .int x10)]) hx hb dX6_worstPerson_34 hl (k := 4) rfl (by rfl) (by decide) rfl (fun ls hl => ?_)
          refine lv_goto (pc := 37) (tgt := 8) hx hb dX6_worstPerson_37 (by decide) ?_
          exact ih _ _ _ _ hf (lv_sub hl [1, 2, 3, 4, 0] rfl)
        refine r_ic_le (pc := 25) (tgt := 34) hx hb dX6_worstPerson_25 (by decide) hf (fun hf => ?_) (fun hf => ?_)
        · exact K8 _ _ _ hf (lv_sub hl [1, 2, 3, 4, 5] rfl)
        · refine lv_iload (pc := 28) hx hb dX6_worstPerson_28 (lv_at hl 5 rfl) ?_
          refine lv_istore_n (pc := 30) (lv' := [(2, .int y3), (5, .int v7), (0, .ref sh_A), (1, .int p1), (3, .int y2), (4, .int y3)]) hx hb dX6_worstPerson_30 rfl hl (by decide) rfl (fun ls hl => ?_)
          refine lv_iload (pc := 31) hx hb dX6_worstPerson_31 (lv_at hl 1 rfl) ?_
          refine lv_istore_n (pc := 33) (lv' := [(3, .int v7), (2, .int y3), (5, .int v7), (0, .ref sh_A), (1, .int p1), (4, .int y3)]) hx hb dX6_worstPerson_33 rfl hl (by decide) rfl (fun ls hl => ?_)
          exact K8 _ _ _ hf (lv_sub hl [3, 4, 1, 0, 5] rfl)
  exact L8 N _ _ _ _ hf (lv_sub hl [3, 4, 2, 1, 0] rfl)
theorem F_X6_fewestBad : CalF yX6_fewestBad cX6_fewestBad 4 (some .int) 1 := ⟨tw_432, tw_4, by decide +kernel⟩
set_option maxRecDepth 100000 in
set_option maxHeartbeats 4000000 in
theorem c_X6_fewestBad (l : Launch) (D : va_G) (cI cJ cZ cS : ClassId) (N : Nat) (sh_A sh_looks_A sh_openBits_A : Nat) (sh_count : Int32) (sh_hands : Int32) (sh_looks : Nat → Int32) (sh_openBits : Nat → Int32) (p1 : Int32) (r : Int32) (hf : f_X6_fewestBad N sh_count sh_openBits p1 = some r) : RoC l D cI cJ cZ cS yX6_fewestBad cX6_fewestBad 4 (some .int) 2 42 (w_X6 cI cJ cZ cS sh_A sh_looks_A sh_openBits_A sh_count sh_hands sh_looks sh_openBits) [.ref sh_A, .int p1] (some (.int r)) := by
  refine ro_in_i (own := RX6) (by decide +kernel) rfl (Nat.le_of_ble_eq_true rfl) ?_
  intro p e s m args below meth c ls Q E hQ hP hl
  obtain ⟨hx, hb, hml, hown, hts, hK, hN, hAO⟩ := id E
  have hl : lv_has ls 4 [(0, .ref sh_A), (1, .int p1)] := hl
  unfold f_X6_fewestBad at hf
  refine lv_bipush (pc := 0) (v := (8 : Int32)) hx hb dX6_fewestBad_0 (by decide) ?_
  refine lv_istore_n (pc := 2) (lv' := [(2, .int (8 : Int32)), (0, .ref sh_A), (1, .int p1)]) hx hb dX6_fewestBad_2 rfl hl (by decide) rfl (fun ls hl => ?_)
  refine lv_iconst (pc := 3) (v := (0 : Int32)) hx hb dX6_fewestBad_3 (by decide) ?_
  refine lv_istore_n (pc := 4) (lv' := [(3, .int (0 : Int32)), (2, .int (8 : Int32)), (0, .ref sh_A), (1, .int p1)]) hx hb dX6_fewestBad_4 rfl hl (by decide) rfl (fun ls hl => ?_)
  obtain ⟨k4, hk4, hf⟩ := lc1_e hf
  have K4 : ∀ (z5 : Int32) (ls : Array Slot), k4 z5 = some r → lv_has ls 4 [(2, .int z5)] → W p l e (roR 2 42) s m args below meth c s.heap [] 0 0 Q (F0 m 30 ls []) := by
    intro z5 ls hf hl
    rw [hk4] at hf
    refine lv_iload_n (pc := 30) hx hb dX6_fewestBad_30 rfl (lv_at hl 0 rfl) ?_
    exact hQ _ _ _ dX6_fewestBad_31 hf
  have L5 : ∀ (n : Nat), ∀ (y1 : Int32) (y2 : Int32) (ls : Array Slot), f_X6_fewestBad_L5 sh_count sh_openBits p1 k4 n y1 y2 = some r → lv_has ls 4 [(0, .ref sh_A), (1, .int p1), (2, .int y1), (3, .int y2)] → W p l e (roR 2 42) s m args below meth c s.heap [] 0 0 Q (F0 m 5 ls []) := by
    intro n
    induction n with
    | zero =>
      intro y1 y2 ls hf
      rw [f_X6_fewestBad_L5] at hf
      cases hf
    | succ n ih =>
      intro y1 y2 ls hf hl
      rw [f_X6_fewestBad_L5] at hf
      refine lv_iload_n (pc := 5) hx hb dX6_fewestBad_5 rfl (lv_at hl 3 rfl) ?_
      refine lv_aload_n (pc := 6) hx hb dX6_fewestBad_6 rfl (lv_at hl 0 rfl) ?_
      refine va_get (pc := 7) (D := D) (ci := 6) (v := .int sh_count) (C := RX6) (T := TX6) (N := 4) hx hb hts inG6 hown hK hP 0 rfl rfl 0 (by decide) (hts _ tw_49) (fun _ h9 => h9) rfl dX6_fewestBad_7 ?_
      refine r_ic_ge (pc := 10) (tgt := 30) hx hb dX6_fewestBad_10 (by decide) hf (fun hf => ?_) (fun hf => ?_)
      · exact K4 _ _ hf (lv_sub hl [2] rfl)
      · refine lv_iload_n (pc := 13) hx hb dX6_fewestBad_13 rfl (lv_at hl 2 rfl) ?_
        refine lv_aload_n (pc := 14) hx hb dX6_fewestBad_14 rfl (lv_at hl 0 rfl) ?_
        refine lv_iload_n (pc := 15) hx hb dX6_fewestBad_15 rfl (lv_at hl 3 rfl) ?_
        refine lv_iload_n (pc := 16) hx hb dX6_fewestBad_16 rfl (lv_at hl 1 rfl) ?_
        obtain ⟨v6, hv17, hf⟩ := bd_e hf
        refine ro_Vi (pc := 17) (As := [.int y2, .int p1]) (rest := [.int y1]) E (c_X6_badIn l D cI cJ cZ cS sh_A sh_looks_A sh_openBits_A sh_count sh_hands sh_looks sh_openBits y2 p1 v6 hv17) F_X6_badIn rfl rfl tw_333 tw_334 tw_335 hP ⟨by decide, by decide⟩ rfl hl.1 (Nat.le_of_ble_eq_true rfl) ⟨by decide, by decide⟩ rfl dX6_fewestBad_17 ?_
        refine r_mmin (pc := 20) E hl.1 tw_433 tw_280 tw_11 tw_281 (by decide) (Nat.le_of_ble_eq_true rfl) (by decide) (by decide) dX6_fewestBad_20 ?_
        refine lv_istore_n (pc := 23) (lv' := [(2, .int (imin y1 v6)), (0, .ref sh_A), (1, .int p1), (3, .int y2)]) hx hb dX6_fewestBad_23 rfl hl (by decide) rfl (fun ls hl => ?_)
        refine lv_iinc (pc := 24) (v := (y2 + (1 : Int32))) (lv' := [(3, .int (y2 + (1 : Int32))), (2, .int (imin y1 v6)), (0, .ref sh_A), (1, .int p1)]) hx hb dX6_fewestBad_24 hl (k := 3) rfl (by rfl) (by decide) rfl (fun ls hl => ?_)
        refine lv_goto (pc := 27) (tgt := 5) hx hb dX6_fewestBad_27 (by decide) ?_
        exact ih _ _ _ hf (lv_sub hl [2, 3, 1, 0] rfl)
  exact L5 N _ _ _ hf (lv_sub hl [2, 3, 1, 0] rfl)
theorem F_X6_fewestLeft : CalF yX6_fewestLeft cX6_fewestLeft 5 (some .int) 1 := ⟨tw_427, tw_4, by decide +kernel⟩
set_option maxRecDepth 100000 in
set_option maxHeartbeats 4000000 in
theorem c_X6_fewestLeft (l : Launch) (D : va_G) (cI cJ cZ cS : ClassId) (N : Nat) (sh_A sh_looks_A sh_openBits_A : Nat) (sh_count : Int32) (sh_hands : Int32) (sh_looks : Nat → Int32) (sh_openBits : Nat → Int32) (p1 : Int32) (r : Int32) (hf : f_X6_fewestLeft N sh_count sh_hands sh_openBits p1 = some r) : RoC l D cI cJ cZ cS yX6_fewestLeft cX6_fewestLeft 5 (some .int) 3 65 (w_X6 cI cJ cZ cS sh_A sh_looks_A sh_openBits_A sh_count sh_hands sh_looks sh_openBits) [.ref sh_A, .int p1] (some (.int r)) := by
  refine ro_in_i (own := RX6) (by decide +kernel) rfl (Nat.le_of_ble_eq_true rfl) ?_
  intro p e s m args below meth c ls Q E hQ hP hl
  obtain ⟨hx, hb, hml, hown, hts, hK, hN, hAO⟩ := id E
  have hl : lv_has ls 5 [(0, .ref sh_A), (1, .int p1)] := hl
  unfold f_X6_fewestLeft at hf
  refine lv_aload_n (pc := 0) hx hb dX6_fewestLeft_0 rfl (lv_at hl 0 rfl) ?_
  refine va_get (pc := 1) (D := D) (ci := 6) (v := .int sh_count) (C := RX6) (T := TX6) (N := 4) hx hb hts inG6 hown hK hP 0 rfl rfl 0 (by decide) (hts _ tw_49) (fun _ h9 => h9) rfl dX6_fewestLeft_1 ?_
  refine r_if_ne (pc := 4) (tgt := 10) hx hb dX6_fewestLeft_4 (by decide) hf (fun hf => ?_) (fun hf => ?_)
  · refine lv_iconst (pc := 10) (v := (0 : Int32)) hx hb dX6_fewestLeft_10 (by decide) ?_
    refine lv_istore_n (pc := 11) (lv' := [(2, .int (0 : Int32)), (0, .ref sh_A), (1, .int p1)]) hx hb dX6_fewestLeft_11 rfl hl (by decide) rfl (fun ls hl => ?_)
    refine lv_iconst (pc := 12) (v := (0 : Int32)) hx hb dX6_fewestLeft_12 (by decide) ?_
    refine lv_istore_n (pc := 13) (lv' := [(3, .int (0 : Int32)), (2, .int (0 : Int32)), (0, .ref sh_A), (1, .int p1)]) hx hb dX6_fewestLeft_13 rfl hl (by decide) rfl (fun ls hl => ?_)
    refine lv_iconst (pc := 14) (v := (0 : Int32)) hx hb dX6_fewestLeft_14 (by decide) ?_
    refine lv_istore (pc := 15) (lv' := [(4, .int (0 : Int32)), (3, .int (0 : Int32)), (2, .int (0 : Int32)), (0, .ref sh_A), (1, .int p1)]) hx hb dX6_fewestLeft_15 hl (by decide) rfl (fun ls hl => ?_)
    obtain ⟨k5, hk5, hf⟩ := lc1_e hf
    have K5 : ∀ (z6 : Int32) (ls : Array Slot), k5 z6 = some r → lv_has ls 5 [(2, .int z6)] → W p l e (roR 3 65) s m args below meth c s.heap [] 0 0 Q (F0 m 55 ls []) := by
      intro z6 ls hf hl
      rw [hk5] at hf
      refine lv_iload_n (pc := 55) hx hb dX6_fewestLeft_55 rfl (lv_at hl 0 rfl) ?_
      exact hQ _ _ _ dX6_fewestLeft_56 hf
    have L17 : ∀ (n : Nat), ∀ (y1 : Int32) (y2 : Int32) (y3 : Int32) (ls : Array Slot), f_X6_fewestLeft_L17 sh_count sh_hands sh_openBits p1 N k5 n y1 y2 y3 = some r → lv_has ls 5 [(0, .ref sh_A), (1, .int p1), (2, .int y1), (3, .int y2), (4, .int y3)] → W p l e (roR 3 65) s m args below meth c s.heap [] 0 0 Q (F0 m 17 ls []) := by
      intro n
      induction n with
      | zero =>
        intro y1 y2 y3 ls hf
        rw [f_X6_fewestLeft_L17] at hf
        cases hf
      | succ n ih =>
        intro y1 y2 y3 ls hf hl
        rw [f_X6_fewestLeft_L17] at hf
        refine lv_iload (pc := 17) hx hb dX6_fewestLeft_17 (lv_at hl 4 rfl) ?_
        refine lv_iload_n (pc := 19) hx hb dX6_fewestLeft_19 rfl (lv_at hl 1 rfl) ?_
        refine r_ic_ge (pc := 20) (tgt := 55) hx hb dX6_fewestLeft_20 (by decide) hf (fun hf => ?_) (fun hf => ?_)
        · exact K5 _ _ hf (lv_sub hl [2] rfl)
        · refine lv_iload_n (pc := 23) hx hb dX6_fewestLeft_23 rfl (lv_at hl 3 rfl) ?_
          refine lv_iconst (pc := 24) (v := (1 : Int32)) hx hb dX6_fewestLeft_24 (by decide) ?_
          refine lv_iload (pc := 25) hx hb dX6_fewestLeft_25 (lv_at hl 4 rfl) ?_
          refine lv_ishl (pc := 27) hx hb dX6_fewestLeft_27 ?_
          refine lv_ior (pc := 28) hx hb dX6_fewestLeft_28 ?_
          refine lv_istore_n (pc := 29) (lv' := [(3, .int (y2 ||| ((1 : Int32) <<< (y3 &&& 31)))), (0, .ref sh_A), (1, .int p1), (2, .int y1), (4, .int y3)]) hx hb dX6_fewestLeft_29 rfl hl (by decide) rfl (fun ls hl => ?_)
          refine lv_aload_n (pc := 30) hx hb dX6_fewestLeft_30 rfl (lv_at hl 1 rfl) ?_
          refine lv_iload (pc := 31) hx hb dX6_fewestLeft_31 (lv_at hl 4 rfl) ?_
          obtain ⟨v7, hv33, hf⟩ := bd_e hf
          refine ro_Vi (pc := 33) (As := [.int y3]) (rest := []) E (c_X6_holdHands l D cI cJ cZ cS sh_A sh_looks_A sh_openBits_A sh_count sh_hands sh_looks sh_openBits y3 v7 hv33) F_X6_holdHands rfl rfl tw_428 tw_400 tw_401 hP ⟨by decide, by decide⟩ rfl hl.1 (Nat.le_of_ble_eq_true rfl) ⟨by decide, by decide⟩ rfl dX6_fewestLeft_33 ?_
          obtain ⟨k8, hk8, hf⟩ := lc2_e hf
          have K8 : ∀ (x10 : Int32) (x11 : Int32) (ls : Array Slot), k8 x10 x11 = some r → lv_has ls 5 [(0, .ref sh_A), (1, .int p1), (2, .int x10), (3, .int x11), (4, .int y3)] → W p l e (roR 3 65) s m args below meth c s.heap [] 0 0 Q (F0 m 49 ls []) := by
            intro x10 x11 ls hf hl
            rw [hk8] at hf
            refine lv_iinc (pc := 49) (v := (y3 + (1 : Int32))) (lv' := [(4, .int (y3 + (1 : Int32))), (0, .ref sh_A), (1, .int p1), (2, .int x10), (3, .int x11)]) hx hb dX6_fewestLeft_49 hl (k := 4) rfl (by rfl) (by decide) rfl (fun ls hl => ?_)
            refine lv_goto (pc := 52) (tgt := 17) hx hb dX6_fewestLeft_52 (by decide) ?_
            exact ih _ _ _ _ hf (lv_sub hl [1, 2, 3, 4, 0] rfl)
          refine r_if_ne (pc := 36) (tgt := 49) hx hb dX6_fewestLeft_36 (by decide) hf (fun hf => ?_) (fun hf => ?_)
          · exact K8 _ _ _ hf (lv_sub hl [1, 2, 3, 0, 4] rfl)
          · refine lv_iload_n (pc := 39) hx hb dX6_fewestLeft_39 rfl (lv_at hl 3 rfl) ?_
            refine lv_aload_n (pc := 40) hx hb dX6_fewestLeft_40 rfl (lv_at hl 1 rfl) ?_
            refine lv_iload_n (pc := 41) hx hb dX6_fewestLeft_41 rfl (lv_at hl 0 rfl) ?_
            obtain ⟨v9, hv42, hf⟩ := bd_e hf
            refine ro_Vi (pc := 42) (As := [.int (y2 ||| ((1 : Int32) <<< (y3 &&& 31)))]) (rest := [.int y1]) E (c_X6_fewestBad l D cI cJ cZ cS N sh_A sh_looks_A sh_openBits_A sh_count sh_hands sh_looks sh_openBits (y2 ||| ((1 : Int32) <<< (y3 &&& 31))) v9 hv42) F_X6_fewestBad rfl rfl tw_429 tw_431 tp_8 hP ⟨by decide, by decide⟩ rfl hl.1 (Nat.le_of_ble_eq_true rfl) ⟨by decide, by decide⟩ rfl dX6_fewestLeft_42 ?_
            refine lv_iadd (pc := 45) hx hb dX6_fewestLeft_45 ?_
            refine lv_istore_n (pc := 46) (lv' := [(2, .int (y1 + v9)), (3, .int (y2 ||| ((1 : Int32) <<< (y3 &&& 31)))), (0, .ref sh_A), (1, .int p1), (4, .int y3)]) hx hb dX6_fewestLeft_46 rfl hl (by decide) rfl (fun ls hl => ?_)
            refine lv_iconst (pc := 47) (v := (0 : Int32)) hx hb dX6_fewestLeft_47 (by decide) ?_
            refine lv_istore_n (pc := 48) (lv' := [(3, .int (0 : Int32)), (2, .int (y1 + v9)), (0, .ref sh_A), (1, .int p1), (4, .int y3)]) hx hb dX6_fewestLeft_48 rfl hl (by decide) rfl (fun ls hl => ?_)
            exact K8 _ _ _ hf (lv_sub hl [2, 3, 1, 0, 4] rfl)
    exact L17 N _ _ _ _ hf (lv_sub hl [3, 4, 2, 1, 0] rfl)
  · refine lv_bipush (pc := 7) (v := (-6 : Int32)) hx hb dX6_fewestLeft_7 (by decide) ?_
    exact hQ _ _ _ dX6_fewestLeft_9 hf
