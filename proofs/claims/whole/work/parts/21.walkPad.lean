theorem F_X3_isFull : CalF yX3_isFull cX3_isFull 1 (some .boolean) 0 := ⟨tw_246, tw_2, by decide +kernel⟩
set_option maxRecDepth 100000 in
set_option maxHeartbeats 4000000 in
theorem c_X3_isFull (l : Launch) (D : va_G) (cI cJ cZ cS : ClassId) (pa_A pa_signs_A : Nat) (pa_signs : Nat → Int32) (pa_count : Int32) (r : Int32) (hf : f_X3_isFull pa_count = some r) : RoC l D cI cJ cZ cS yX3_isFull cX3_isFull 1 (some .boolean) 0 0 (w_X3 cI cJ cZ cS pa_A pa_signs_A pa_signs pa_count) [.ref pa_A] (some (.int r)) := by
  refine ro_in_z (own := RX3) (by decide +kernel) rfl (Nat.le_of_ble_eq_true rfl) ?_
  intro p e s m args below meth c ls Q E hQ hP hl
  obtain ⟨hx, hb, hml, hown, hts, hK, hN, hAO⟩ := id E
  have hl : lv_has ls 1 [(0, .ref pa_A)] := hl
  unfold f_X3_isFull at hf
  refine lv_aload_n (pc := 0) hx hb dX3_isFull_0 rfl (lv_at hl 0 rfl) ?_
  refine va_get (pc := 1) (D := D) (ci := 3) (v := .int pa_count) (C := RX3) (T := TX3) (N := 2) hx hb hts inG3 hown hK hP 0 rfl rfl 1 (by decide) (hts _ tw_29) (fun _ h9 => h9) rfl dX3_isFull_1 ?_
  refine lv_bipush (pc := 4) (v := (40 : Int32)) hx hb dX3_isFull_4 (by decide) ?_
  refine r_ic_lt (pc := 6) (tgt := 13) hx hb dX3_isFull_6 (by decide) hf (fun hf => ?_) (fun hf => ?_)
  · refine lv_iconst (pc := 13) (v := (0 : Int32)) hx hb dX3_isFull_13 (by decide) ?_
    exact hQ _ _ _ dX3_isFull_14 rfl hf
  · refine lv_iconst (pc := 9) (v := (1 : Int32)) hx hb dX3_isFull_9 (by decide) ?_
    refine lv_goto (pc := 10) (tgt := 14) hx hb dX3_isFull_10 (by decide) ?_
    exact hQ _ _ _ dX3_isFull_14 rfl hf
theorem F_X3_add : CalF yX3_add cX3_add 2 (some .int) 1 := ⟨tw_250, tw_2, by decide +kernel⟩
set_option maxRecDepth 100000 in
set_option maxHeartbeats 4000000 in
theorem c_X3_add (l : Launch) (D : va_G) (cI cJ cZ cS : ClassId) (pa_A pa_signs_A : Nat) (pa_signs : Nat → Int32) (pa_count : Int32) (p1 : Int32) (sz : Nat) (r : Int32) (r_pa_count : Int32) (r_pa_signs : Nat → Int32) (hf : f_X3_add pa_signs pa_count p1 = some (r, r_pa_count, r_pa_signs)) : RwC l D cI cJ cZ cS yX3_add cX3_add 2 (some .int) 1 20 (w_X3 cI cJ cZ cS pa_A pa_signs_A pa_signs pa_count) sz [.ref pa_A, .int p1] (some (.int r)) (w_X3 cI cJ cZ cS pa_A pa_signs_A r_pa_signs r_pa_count) := by
  refine rw_in_i (own := RX3) (by decide +kernel) rfl (Nat.le_of_ble_eq_true rfl) ?_
  intro p e s m args below meth c ls Q A E hA hQ hP hD hS hl
  obtain ⟨hx, hb, hml, hown, hts, hK, hN, hAO⟩ := id E
  have hl : lv_has ls 2 [(0, .ref pa_A), (1, .int p1)] := hl
  unfold f_X3_add at hf
  obtain ⟨H, hH⟩ : ∃ H, H = s.heap := ⟨_, rfl⟩
  obtain ⟨locs, hlocs⟩ : ∃ L : List Loc, L = [] := ⟨_, rfl⟩
  rw [show W p l e (roR 1 20) s m args below meth c s.heap [] 0 0 Q (F0 m 0 ls []) = W p l e (roR 1 20) s m args below meth c H locs 0 0 Q (F0 m 0 ls []) by rw [hH, hlocs]]
  replace hS : va_S A s.heap H locs := by rw [hH, hlocs]; exact hS
  replace hP : va_P D vwCl (w_X3 cI cJ cZ cS pa_A pa_signs_A pa_signs pa_count) H := by rw [hH]; exact hP
  clear hH hlocs
  refine lv_aload_n (pc := 0) hx hb dX3_add_0 rfl (lv_at hl 0 rfl) ?_
  obtain ⟨v1, hv1, hf⟩ := bd_e hf
  refine ro_Vi (pc := 1) (As := []) (rest := []) E (c_X3_isFull l D cI cJ cZ cS pa_A pa_signs_A pa_signs pa_count v1 hv1) F_X3_isFull rfl rfl tw_251 tw_244 tw_245 hP ⟨by decide, by decide⟩ rfl hl.1 (Nat.le_of_ble_eq_true rfl) ⟨by decide, by decide⟩ rfl dX3_add_1 ?_
  refine r_if_eq (pc := 4) (tgt := 12) hx hb dX3_add_4 (by decide) hf (fun hf => ?_) (fun hf => ?_)
  · refine lv_aload_n (pc := 12) hx hb dX3_add_12 rfl (lv_at hl 0 rfl) ?_
    refine va_get (pc := 13) (D := D) (ci := 3) (v := .ref pa_signs_A) (C := RX3) (T := TX3) (N := 2) hx hb hts inG3 hown hK hP 0 rfl rfl 0 (by decide) (hts _ tw_28) (fun _ h9 => h9) rfl dX3_add_13 ?_
    refine lv_aload_n (pc := 16) hx hb dX3_add_16 rfl (lv_at hl 0 rfl) ?_
    refine va_get (pc := 17) (D := D) (ci := 3) (v := .int pa_count) (C := RX3) (T := TX3) (N := 2) hx hb hts inG3 hown hK hP 0 rfl rfl 1 (by decide) (hts _ tw_29) (fun _ h9 => h9) rfl dX3_add_17 ?_
    refine lv_iload_n (pc := 20) hx hb dX3_add_20 rfl (lv_at hl 1 rfl) ?_
    refine r_iast (pc := 21) hx hb hK hP hD hS 1 0 rfl rfl hf dX3_add_21 (fun pa_signs_2 H locs hf hP hD hS => ?_)
    have hP : va_P D vwCl (w_X3 cI cJ cZ cS pa_A pa_signs_A pa_signs_2 pa_count) H := hP
    have hD : va_D A (w_X3 cI cJ cZ cS pa_A pa_signs_A pa_signs_2 pa_count) := hD
    refine lv_aload_n (pc := 22) hx hb dX3_add_22 rfl (lv_at hl 0 rfl) ?_
    refine lv_dup (pc := 23) hx hb dX3_add_23 rfl ?_
    refine va_get (pc := 24) (D := D) (ci := 3) (v := .int pa_count) (C := RX3) (T := TX3) (N := 2) hx hb hts inG3 hown hK hP 0 rfl rfl 1 (by decide) (hts _ tw_29) (fun _ h9 => h9) rfl dX3_add_24 ?_
    refine lv_iconst (pc := 27) (v := (1 : Int32)) hx hb dX3_add_27 (by decide) ?_
    refine lv_iadd (pc := 28) hx hb dX3_add_28 ?_
    refine va_put (pc := 29) (D := D) (ci := 3) (v := .int (pa_count + (1 : Int32))) (ty := .int) (C := RX3) (T := TX3) (N := 2) hx hb hts inG3 tyX3 tyX3_ok nmX3 hown hK hP hD hS 0 rfl rfl 1 (by decide) (hts _ tw_29) (fun _ h9 => h9) rfl (by decide +kernel) rfl rfl (Nat.le_of_ble_eq_true rfl) dX3_add_29 (fun H locs hP hD hS => ?_)
    have hP : va_P D vwCl (w_X3 cI cJ cZ cS pa_A pa_signs_A pa_signs_2 (pa_count + (1 : Int32))) H := hP
    have hD : va_D A (w_X3 cI cJ cZ cS pa_A pa_signs_A pa_signs_2 (pa_count + (1 : Int32))) := hD
    refine lv_aload_n (pc := 32) hx hb dX3_add_32 rfl (lv_at hl 0 rfl) ?_
    refine va_get (pc := 33) (D := D) (ci := 3) (v := .int (pa_count + (1 : Int32))) (C := RX3) (T := TX3) (N := 2) hx hb hts inG3 hown hK hP 0 rfl rfl 1 (by decide) (hts _ tw_29) (fun _ h9 => h9) rfl dX3_add_33 ?_
    cases hf
    exact hQ _ _ _ _ _ dX3_add_36 rfl hP hD hS
  · refine lv_aload_n (pc := 7) hx hb dX3_add_7 rfl (lv_at hl 0 rfl) ?_
    refine va_get (pc := 8) (D := D) (ci := 3) (v := .int pa_count) (C := RX3) (T := TX3) (N := 2) hx hb hts inG3 hown hK hP 0 rfl rfl 1 (by decide) (hts _ tw_29) (fun _ h9 => h9) rfl dX3_add_8 ?_
    cases hf
    exact hQ _ _ _ _ _ dX3_add_11 rfl hP hD hS
theorem F_X3_clear : CalF yX3_clear cX3_clear 2 (some .int) 0 := ⟨tw_259, tw_2, by decide +kernel⟩
set_option maxRecDepth 100000 in
set_option maxHeartbeats 4000000 in
theorem c_X3_clear (l : Launch) (D : va_G) (cI cJ cZ cS : ClassId) (pa_A pa_signs_A : Nat) (pa_signs : Nat → Int32) (pa_count : Int32) (sz : Nat) (r : Int32) (r_pa_count : Int32) (hf : f_X3_clear pa_count = some (r, r_pa_count)) : RwC l D cI cJ cZ cS yX3_clear cX3_clear 2 (some .int) 0 0 (w_X3 cI cJ cZ cS pa_A pa_signs_A pa_signs pa_count) sz [.ref pa_A] (some (.int r)) (w_X3 cI cJ cZ cS pa_A pa_signs_A pa_signs r_pa_count) := by
  refine rw_in_i (own := RX3) (by decide +kernel) rfl (Nat.le_of_ble_eq_true rfl) ?_
  intro p e s m args below meth c ls Q A E hA hQ hP hD hS hl
  obtain ⟨hx, hb, hml, hown, hts, hK, hN, hAO⟩ := id E
  have hl : lv_has ls 2 [(0, .ref pa_A)] := hl
  unfold f_X3_clear at hf
  obtain ⟨H, hH⟩ : ∃ H, H = s.heap := ⟨_, rfl⟩
  obtain ⟨locs, hlocs⟩ : ∃ L : List Loc, L = [] := ⟨_, rfl⟩
  rw [show W p l e (roR 0 0) s m args below meth c s.heap [] 0 0 Q (F0 m 0 ls []) = W p l e (roR 0 0) s m args below meth c H locs 0 0 Q (F0 m 0 ls []) by rw [hH, hlocs]]
  replace hS : va_S A s.heap H locs := by rw [hH, hlocs]; exact hS
  replace hP : va_P D vwCl (w_X3 cI cJ cZ cS pa_A pa_signs_A pa_signs pa_count) H := by rw [hH]; exact hP
  clear hH hlocs
  refine lv_aload_n (pc := 0) hx hb dX3_clear_0 rfl (lv_at hl 0 rfl) ?_
  refine va_get (pc := 1) (D := D) (ci := 3) (v := .int pa_count) (C := RX3) (T := TX3) (N := 2) hx hb hts inG3 hown hK hP 0 rfl rfl 1 (by decide) (hts _ tw_29) (fun _ h9 => h9) rfl dX3_clear_1 ?_
  refine lv_istore_n (pc := 4) (lv' := [(1, .int pa_count), (0, .ref pa_A)]) hx hb dX3_clear_4 rfl hl (by decide) rfl (fun ls hl => ?_)
  refine lv_aload_n (pc := 5) hx hb dX3_clear_5 rfl (lv_at hl 1 rfl) ?_
  refine lv_iconst (pc := 6) (v := (0 : Int32)) hx hb dX3_clear_6 (by decide) ?_
  refine va_put (pc := 7) (D := D) (ci := 3) (v := .int (0 : Int32)) (ty := .int) (C := RX3) (T := TX3) (N := 2) hx hb hts inG3 tyX3 tyX3_ok nmX3 hown hK hP hD hS 0 rfl rfl 1 (by decide) (hts _ tw_29) (fun _ h9 => h9) rfl (by decide +kernel) rfl rfl (Nat.le_of_ble_eq_true rfl) dX3_clear_7 (fun H locs hP hD hS => ?_)
  have hP : va_P D vwCl (w_X3 cI cJ cZ cS pa_A pa_signs_A pa_signs (0 : Int32)) H := hP
  have hD : va_D A (w_X3 cI cJ cZ cS pa_A pa_signs_A pa_signs (0 : Int32)) := hD
  refine lv_iload_n (pc := 10) hx hb dX3_clear_10 rfl (lv_at hl 0 rfl) ?_
  cases hf
  exact hQ _ _ _ _ _ dX3_clear_11 rfl hP hD hS
theorem F_X3_signAt : CalF yX3_signAt cX3_signAt 2 (some .int) 1 := ⟨tw_271, tw_2, by decide +kernel⟩
set_option maxRecDepth 100000 in
set_option maxHeartbeats 4000000 in
theorem c_X3_signAt (l : Launch) (D : va_G) (cI cJ cZ cS : ClassId) (pa_A pa_signs_A : Nat) (pa_signs : Nat → Int32) (pa_count : Int32) (p1 : Int32) (r : Int32) (hf : f_X3_signAt pa_signs pa_count p1 = some r) : RoC l D cI cJ cZ cS yX3_signAt cX3_signAt 2 (some .int) 0 0 (w_X3 cI cJ cZ cS pa_A pa_signs_A pa_signs pa_count) [.ref pa_A, .int p1] (some (.int r)) := by
  refine ro_in_i (own := RX3) (by decide +kernel) rfl (Nat.le_of_ble_eq_true rfl) ?_
  intro p e s m args below meth c ls Q E hQ hP hl
  obtain ⟨hx, hb, hml, hown, hts, hK, hN, hAO⟩ := id E
  have hl : lv_has ls 2 [(0, .ref pa_A), (1, .int p1)] := hl
  unfold f_X3_signAt at hf
  refine lv_iload_n (pc := 0) hx hb dX3_signAt_0 rfl (lv_at hl 1 rfl) ?_
  refine r_if_lt (pc := 1) (tgt := 12) hx hb dX3_signAt_1 (by decide) hf (fun hf => ?_) (fun hf => ?_)
  · refine lv_iconst (pc := 12) (v := (0 : Int32)) hx hb dX3_signAt_12 (by decide) ?_
    refine lv_goto (pc := 13) (tgt := 22) hx hb dX3_signAt_13 (by decide) ?_
    exact hQ _ _ _ dX3_signAt_22 hf
  · refine lv_iload_n (pc := 4) hx hb dX3_signAt_4 rfl (lv_at hl 1 rfl) ?_
    refine lv_aload_n (pc := 5) hx hb dX3_signAt_5 rfl (lv_at hl 0 rfl) ?_
    refine va_get (pc := 6) (D := D) (ci := 3) (v := .int pa_count) (C := RX3) (T := TX3) (N := 2) hx hb hts inG3 hown hK hP 0 rfl rfl 1 (by decide) (hts _ tw_29) (fun _ h9 => h9) rfl dX3_signAt_6 ?_
    refine r_ic_lt (pc := 9) (tgt := 16) hx hb dX3_signAt_9 (by decide) hf (fun hf => ?_) (fun hf => ?_)
    · refine lv_aload_n (pc := 16) hx hb dX3_signAt_16 rfl (lv_at hl 0 rfl) ?_
      refine va_get (pc := 17) (D := D) (ci := 3) (v := .ref pa_signs_A) (C := RX3) (T := TX3) (N := 2) hx hb hts inG3 hown hK hP 0 rfl rfl 0 (by decide) (hts _ tw_28) (fun _ h9 => h9) rfl dX3_signAt_17 ?_
      refine lv_iload_n (pc := 20) hx hb dX3_signAt_20 rfl (lv_at hl 1 rfl) ?_
      refine r_iald (pc := 21) hx hb hK hP 1 0 rfl rfl hf dX3_signAt_21 (fun v1 hf => ?_)
      exact hQ _ _ _ dX3_signAt_22 hf
    · refine lv_iconst (pc := 12) (v := (0 : Int32)) hx hb dX3_signAt_12 (by decide) ?_
      refine lv_goto (pc := 13) (tgt := 22) hx hb dX3_signAt_13 (by decide) ?_
      exact hQ _ _ _ dX3_signAt_22 hf
theorem F_X3_isLook : CalF yX3_isLook cX3_isLook 1 (some .boolean) 1 := ⟨tw_274, tw_2, by decide +kernel⟩
set_option maxRecDepth 100000 in
set_option maxHeartbeats 4000000 in
theorem c_X3_isLook (l : Launch) (D : va_G) (cI cJ cZ cS : ClassId) (p1 : Int32) (r : Int32) (hf : f_X3_isLook p1 = some r) : RoC l D cI cJ cZ cS yX3_isLook cX3_isLook 1 (some .boolean) 0 0 [] [.int p1] (some (.int r)) := by
  refine ro_in_z (own := RX3) (by decide +kernel) rfl (Nat.le_of_ble_eq_true rfl) ?_
  intro p e s m args below meth c ls Q E hQ hP hl
  obtain ⟨hx, hb, hml, hown, hts, hK, hN, hAO⟩ := id E
  have hl : lv_has ls 1 [(0, .int p1)] := hl
  unfold f_X3_isLook at hf
  refine lv_iload_n (pc := 0) hx hb dX3_isLook_0 rfl (lv_at hl 0 rfl) ?_
  refine lv_bipush (pc := 1) (v := (111 : Int32)) hx hb dX3_isLook_1 (by decide) ?_
  refine r_ic_eq (pc := 3) (tgt := 24) hx hb dX3_isLook_3 (by decide) hf (fun hf => ?_) (fun hf => ?_)
  · refine lv_iconst (pc := 24) (v := (1 : Int32)) hx hb dX3_isLook_24 (by decide) ?_
    refine lv_goto (pc := 25) (tgt := 29) hx hb dX3_isLook_25 (by decide) ?_
    exact hQ _ _ _ dX3_isLook_29 rfl hf
  · refine lv_iload_n (pc := 6) hx hb dX3_isLook_6 rfl (lv_at hl 0 rfl) ?_
    refine lv_bipush (pc := 7) (v := (115 : Int32)) hx hb dX3_isLook_7 (by decide) ?_
    refine r_ic_eq (pc := 9) (tgt := 24) hx hb dX3_isLook_9 (by decide) hf (fun hf => ?_) (fun hf => ?_)
    · refine lv_iconst (pc := 24) (v := (1 : Int32)) hx hb dX3_isLook_24 (by decide) ?_
      refine lv_goto (pc := 25) (tgt := 29) hx hb dX3_isLook_25 (by decide) ?_
      exact hQ _ _ _ dX3_isLook_29 rfl hf
    · refine lv_iload_n (pc := 12) hx hb dX3_isLook_12 rfl (lv_at hl 0 rfl) ?_
      refine lv_bipush (pc := 13) (v := (116 : Int32)) hx hb dX3_isLook_13 (by decide) ?_
      refine r_ic_eq (pc := 15) (tgt := 24) hx hb dX3_isLook_15 (by decide) hf (fun hf => ?_) (fun hf => ?_)
      · refine lv_iconst (pc := 24) (v := (1 : Int32)) hx hb dX3_isLook_24 (by decide) ?_
        refine lv_goto (pc := 25) (tgt := 29) hx hb dX3_isLook_25 (by decide) ?_
        exact hQ _ _ _ dX3_isLook_29 rfl hf
      · refine lv_iload_n (pc := 18) hx hb dX3_isLook_18 rfl (lv_at hl 0 rfl) ?_
        refine lv_bipush (pc := 19) (v := (104 : Int32)) hx hb dX3_isLook_19 (by decide) ?_
        refine r_ic_ne (pc := 21) (tgt := 28) hx hb dX3_isLook_21 (by decide) hf (fun hf => ?_) (fun hf => ?_)
        · refine lv_iconst (pc := 28) (v := (0 : Int32)) hx hb dX3_isLook_28 (by decide) ?_
          exact hQ _ _ _ dX3_isLook_29 rfl hf
        · refine lv_iconst (pc := 24) (v := (1 : Int32)) hx hb dX3_isLook_24 (by decide) ?_
          refine lv_goto (pc := 25) (tgt := 29) hx hb dX3_isLook_25 (by decide) ?_
          exact hQ _ _ _ dX3_isLook_29 rfl hf
theorem F_X3_faultOfLength : CalF yX3_faultOfLength cX3_faultOfLength 2 (some .int) 1 := ⟨tw_278, tw_2, by decide +kernel⟩
set_option maxRecDepth 100000 in
set_option maxHeartbeats 4000000 in
theorem c_X3_faultOfLength (l : Launch) (D : va_G) (cI cJ cZ cS : ClassId) (pa_A pa_signs_A : Nat) (pa_signs : Nat → Int32) (pa_count : Int32) (p1 : Int32) (r : Int32) (hf : f_X3_faultOfLength pa_count p1 = some r) : RoC l D cI cJ cZ cS yX3_faultOfLength cX3_faultOfLength 2 (some .int) 1 21 (w_X3 cI cJ cZ cS pa_A pa_signs_A pa_signs pa_count) [.ref pa_A, .int p1] (some (.int r)) := by
  refine ro_in_i (own := RX3) (by decide +kernel) rfl (Nat.le_of_ble_eq_true rfl) ?_
  intro p e s m args below meth c ls Q E hQ hP hl
  obtain ⟨hx, hb, hml, hown, hts, hK, hN, hAO⟩ := id E
  have hl : lv_has ls 2 [(0, .ref pa_A), (1, .int p1)] := hl
  unfold f_X3_faultOfLength at hf
  refine lv_aload_n (pc := 0) hx hb dX3_faultOfLength_0 rfl (lv_at hl 0 rfl) ?_
  refine va_get (pc := 1) (D := D) (ci := 3) (v := .int pa_count) (C := RX3) (T := TX3) (N := 2) hx hb hts inG3 hown hK hP 0 rfl rfl 1 (by decide) (hts _ tw_29) (fun _ h9 => h9) rfl dX3_faultOfLength_1 ?_
  refine lv_iload_n (pc := 4) hx hb dX3_faultOfLength_4 rfl (lv_at hl 1 rfl) ?_
  refine r_ic_ne (pc := 5) (tgt := 13) hx hb dX3_faultOfLength_5 (by decide) hf (fun hf => ?_) (fun hf => ?_)
  · refine lv_aload_n (pc := 13) hx hb dX3_faultOfLength_13 rfl (lv_at hl 0 rfl) ?_
    refine va_get (pc := 14) (D := D) (ci := 3) (v := .int pa_count) (C := RX3) (T := TX3) (N := 2) hx hb hts inG3 hown hK hP 0 rfl rfl 1 (by decide) (hts _ tw_29) (fun _ h9 => h9) rfl dX3_faultOfLength_14 ?_
    refine lv_iload_n (pc := 17) hx hb dX3_faultOfLength_17 rfl (lv_at hl 1 rfl) ?_
    refine r_mmin (pc := 18) E hl.1 tw_279 tw_280 tw_11 tw_281 (by decide) (Nat.le_of_ble_eq_true rfl) (by decide) (by decide) dX3_faultOfLength_18 ?_
    exact hQ _ _ _ dX3_faultOfLength_21 hf
  · refine lv_bipush (pc := 8) (v := (-6 : Int32)) hx hb dX3_faultOfLength_8 (by decide) ?_
    refine lv_goto (pc := 10) (tgt := 21) hx hb dX3_faultOfLength_10 (by decide) ?_
    exact hQ _ _ _ dX3_faultOfLength_21 hf
theorem F_X3_faultAsShot : CalF yX3_faultAsShot cX3_faultAsShot 3 (some .int) 1 := ⟨tw_267, tw_2, by decide +kernel⟩
set_option maxRecDepth 100000 in
set_option maxHeartbeats 4000000 in
theorem c_X3_faultAsShot (l : Launch) (D : va_G) (cI cJ cZ cS : ClassId) (N : Nat) (pa_A pa_signs_A : Nat) (pa_signs : Nat → Int32) (pa_count : Int32) (p1 : Int32) (r : Int32) (hf : f_X3_faultAsShot N pa_signs pa_count p1 = some r) : RoC l D cI cJ cZ cS yX3_faultAsShot cX3_faultAsShot 3 (some .int) 2 42 (w_X3 cI cJ cZ cS pa_A pa_signs_A pa_signs pa_count) [.ref pa_A, .int p1] (some (.int r)) := by
  refine ro_in_i (own := RX3) (by decide +kernel) rfl (Nat.le_of_ble_eq_true rfl) ?_
  intro p e s m args below meth c ls Q E hQ hP hl
  obtain ⟨hx, hb, hml, hown, hts, hK, hN, hAO⟩ := id E
  have hl : lv_has ls 3 [(0, .ref pa_A), (1, .int p1)] := hl
  unfold f_X3_faultAsShot at hf
  refine lv_iconst (pc := 0) (v := (0 : Int32)) hx hb dX3_faultAsShot_0 (by decide) ?_
  refine lv_istore_n (pc := 1) (lv' := [(2, .int (0 : Int32)), (0, .ref pa_A), (1, .int p1)]) hx hb dX3_faultAsShot_1 rfl hl (by decide) rfl (fun ls hl => ?_)
  obtain ⟨k3, hk3, hf⟩ := lc0_e hf
  have K3 : ∀  (ls : Array Slot), k3 = some r → lv_has ls 3 [(0, .ref pa_A), (1, .int p1)] → W p l e (roR 2 42) s m args below meth c s.heap [] 0 0 Q (F0 m 34 ls []) := by
    intro  ls hf hl
    rw [hk3] at hf
    refine lv_aload_n (pc := 34) hx hb dX3_faultAsShot_34 rfl (lv_at hl 0 rfl) ?_
    refine lv_iload_n (pc := 35) hx hb dX3_faultAsShot_35 rfl (lv_at hl 1 rfl) ?_
    obtain ⟨v6, hv36, hf⟩ := bd_e hf
    refine ro_Vi (pc := 36) (As := [.int p1]) (rest := []) E (c_X3_faultOfLength l D cI cJ cZ cS pa_A pa_signs_A pa_signs pa_count p1 v6 hv36) F_X3_faultOfLength rfl rfl tw_275 tw_277 tp_0 hP ⟨by decide, by decide⟩ rfl hl.1 (Nat.le_of_ble_eq_true rfl) ⟨by decide, by decide⟩ rfl dX3_faultAsShot_36 ?_
    exact hQ _ _ _ dX3_faultAsShot_39 hf
  have L2 : ∀ (n : Nat), ∀ (y1 : Int32) (ls : Array Slot), f_X3_faultAsShot_L2 pa_signs pa_count p1 k3 n y1 = some r → lv_has ls 3 [(0, .ref pa_A), (1, .int p1), (2, .int y1)] → W p l e (roR 2 42) s m args below meth c s.heap [] 0 0 Q (F0 m 2 ls []) := by
    intro n
    induction n with
    | zero =>
      intro y1 ls hf
      rw [f_X3_faultAsShot_L2] at hf
      cases hf
    | succ n ih =>
      intro y1 ls hf hl
      rw [f_X3_faultAsShot_L2] at hf
      refine lv_iload_n (pc := 2) hx hb dX3_faultAsShot_2 rfl (lv_at hl 2 rfl) ?_
      refine lv_aload_n (pc := 3) hx hb dX3_faultAsShot_3 rfl (lv_at hl 0 rfl) ?_
      refine va_get (pc := 4) (D := D) (ci := 3) (v := .int pa_count) (C := RX3) (T := TX3) (N := 2) hx hb hts inG3 hown hK hP 0 rfl rfl 1 (by decide) (hts _ tw_29) (fun _ h9 => h9) rfl dX3_faultAsShot_4 ?_
      refine r_ic_ge (pc := 7) (tgt := 34) hx hb dX3_faultAsShot_7 (by decide) hf (fun hf => ?_) (fun hf => ?_)
      · exact K3  _ hf (lv_sub hl [0, 1] rfl)
      · refine lv_iload_n (pc := 10) hx hb dX3_faultAsShot_10 rfl (lv_at hl 2 rfl) ?_
        refine lv_iload_n (pc := 11) hx hb dX3_faultAsShot_11 rfl (lv_at hl 1 rfl) ?_
        refine r_ic_ge (pc := 12) (tgt := 34) hx hb dX3_faultAsShot_12 (by decide) hf (fun hf => ?_) (fun hf => ?_)
        · exact K3  _ hf (lv_sub hl [0, 1] rfl)
        · refine lv_aload_n (pc := 15) hx hb dX3_faultAsShot_15 rfl (lv_at hl 0 rfl) ?_
          refine lv_iload_n (pc := 16) hx hb dX3_faultAsShot_16 rfl (lv_at hl 2 rfl) ?_
          obtain ⟨v4, hv17, hf⟩ := bd_e hf
          refine ro_Vi (pc := 17) (As := [.int y1]) (rest := []) E (c_X3_signAt l D cI cJ cZ cS pa_A pa_signs_A pa_signs pa_count y1 v4 hv17) F_X3_signAt rfl rfl tw_268 tw_269 tw_270 hP ⟨by decide, by decide⟩ rfl hl.1 (Nat.le_of_ble_eq_true rfl) ⟨by decide, by decide⟩ rfl dX3_faultAsShot_17 ?_
          obtain ⟨v5, hv20, hf⟩ := bd_e hf
          refine ro_Si (pc := 20) (As := [.int v4]) (rest := []) E (c_X3_isLook l D cI cJ cZ cS v4 v5 hv20) F_X3_isLook tw_272 tw_273  va_P_nil ⟨by decide, by decide⟩ rfl hl.1 (Nat.le_of_ble_eq_true rfl) ⟨by decide, by decide⟩ rfl dX3_faultAsShot_20 ?_
          refine r_if_ne (pc := 23) (tgt := 28) hx hb dX3_faultAsShot_23 (by decide) hf (fun hf => ?_) (fun hf => ?_)
          · refine lv_iinc (pc := 28) (v := (y1 + (1 : Int32))) (lv' := [(2, .int (y1 + (1 : Int32))), (0, .ref pa_A), (1, .int p1)]) hx hb dX3_faultAsShot_28 hl (k := 2) rfl (by rfl) (by decide) rfl (fun ls hl => ?_)
            refine lv_goto (pc := 31) (tgt := 2) hx hb dX3_faultAsShot_31 (by decide) ?_
            exact ih _ _ hf (lv_sub hl [1, 2, 0] rfl)
          · refine lv_iload_n (pc := 26) hx hb dX3_faultAsShot_26 rfl (lv_at hl 2 rfl) ?_
            exact hQ _ _ _ dX3_faultAsShot_27 hf
  exact L2 N _ _ hf (lv_sub hl [1, 2, 0] rfl)
theorem F_X3_faultAsStanding : CalF yX3_faultAsStanding cX3_faultAsStanding 6 (some .int) 2 := ⟨tw_293, tw_2, by decide +kernel⟩
set_option maxRecDepth 100000 in
set_option maxHeartbeats 4000000 in
theorem c_X3_faultAsStanding (l : Launch) (D : va_G) (cI cJ cZ cS : ClassId) (N : Nat) (pa_A pa_signs_A : Nat) (pa_signs : Nat → Int32) (pa_count : Int32) (p1 : Int32) (p2 : Int32) (r : Int32) (hf : f_X3_faultAsStanding N pa_signs pa_count p1 p2 = some r) : RoC l D cI cJ cZ cS yX3_faultAsStanding cX3_faultAsStanding 6 (some .int) 2 42 (w_X3 cI cJ cZ cS pa_A pa_signs_A pa_signs pa_count) [.ref pa_A, .int p1, .int p2] (some (.int r)) := by
  refine ro_in_i (own := RX3) (by decide +kernel) rfl (Nat.le_of_ble_eq_true rfl) ?_
  intro p e s m args below meth c ls Q E hQ hP hl
  obtain ⟨hx, hb, hml, hown, hts, hK, hN, hAO⟩ := id E
  have hl : lv_has ls 6 [(0, .ref pa_A), (1, .int p1), (2, .int p2)] := hl
  unfold f_X3_faultAsStanding at hf
  refine lv_iconst (pc := 0) (v := (0 : Int32)) hx hb dX3_faultAsStanding_0 (by decide) ?_
  refine lv_istore_n (pc := 1) (lv' := [(3, .int (0 : Int32)), (0, .ref pa_A), (1, .int p1), (2, .int p2)]) hx hb dX3_faultAsStanding_1 rfl hl (by decide) rfl (fun ls hl => ?_)
  refine lv_iconst (pc := 2) (v := (0 : Int32)) hx hb dX3_faultAsStanding_2 (by decide) ?_
  refine lv_istore (pc := 3) (lv' := [(4, .int (0 : Int32)), (3, .int (0 : Int32)), (0, .ref pa_A), (1, .int p1), (2, .int p2)]) hx hb dX3_faultAsStanding_3 hl (by decide) rfl (fun ls hl => ?_)
  obtain ⟨k4, hk4, hf⟩ := lc0_e hf
  have K4 : ∀  (ls : Array Slot), k4 = some r → lv_has ls 6 [(0, .ref pa_A), (1, .int p1)] → W p l e (roR 2 42) s m args below meth c s.heap [] 0 0 Q (F0 m 69 ls []) := by
    intro  ls hf hl
    rw [hk4] at hf
    refine lv_aload_n (pc := 69) hx hb dX3_faultAsStanding_69 rfl (lv_at hl 0 rfl) ?_
    refine lv_iload_n (pc := 70) hx hb dX3_faultAsStanding_70 rfl (lv_at hl 1 rfl) ?_
    obtain ⟨v7, hv71, hf⟩ := bd_e hf
    refine ro_Vi (pc := 71) (As := [.int p1]) (rest := []) E (c_X3_faultOfLength l D cI cJ cZ cS pa_A pa_signs_A pa_signs pa_count p1 v7 hv71) F_X3_faultOfLength rfl rfl tw_275 tw_277 tp_0 hP ⟨by decide, by decide⟩ rfl hl.1 (Nat.le_of_ble_eq_true rfl) ⟨by decide, by decide⟩ rfl dX3_faultAsStanding_71 ?_
    exact hQ _ _ _ dX3_faultAsStanding_74 hf
  have L5 : ∀ (n : Nat), ∀ (y1 : Int32) (y2 : Int32) (ls : Array Slot), f_X3_faultAsStanding_L5 pa_signs pa_count p1 p2 k4 n y1 y2 = some r → lv_has ls 6 [(0, .ref pa_A), (1, .int p1), (2, .int p2), (3, .int y1), (4, .int y2)] → W p l e (roR 2 42) s m args below meth c s.heap [] 0 0 Q (F0 m 5 ls []) := by
    intro n
    induction n with
    | zero =>
      intro y1 y2 ls hf
      rw [f_X3_faultAsStanding_L5] at hf
      cases hf
    | succ n ih =>
      intro y1 y2 ls hf hl
      rw [f_X3_faultAsStanding_L5] at hf
      refine lv_iload (pc := 5) hx hb dX3_faultAsStanding_5 (lv_at hl 4 rfl) ?_
      refine lv_aload_n (pc := 7) hx hb dX3_faultAsStanding_7 rfl (lv_at hl 0 rfl) ?_
      refine va_get (pc := 8) (D := D) (ci := 3) (v := .int pa_count) (C := RX3) (T := TX3) (N := 2) hx hb hts inG3 hown hK hP 0 rfl rfl 1 (by decide) (hts _ tw_29) (fun _ h9 => h9) rfl dX3_faultAsStanding_8 ?_
      refine r_ic_ge (pc := 11) (tgt := 69) hx hb dX3_faultAsStanding_11 (by decide) hf (fun hf => ?_) (fun hf => ?_)
      · exact K4  _ hf (lv_sub hl [0, 1] rfl)
      · refine lv_iload (pc := 14) hx hb dX3_faultAsStanding_14 (lv_at hl 4 rfl) ?_
        refine lv_iload_n (pc := 16) hx hb dX3_faultAsStanding_16 rfl (lv_at hl 1 rfl) ?_
        refine r_ic_ge (pc := 17) (tgt := 69) hx hb dX3_faultAsStanding_17 (by decide) hf (fun hf => ?_) (fun hf => ?_)
        · exact K4  _ hf (lv_sub hl [0, 1] rfl)
        · refine lv_aload_n (pc := 20) hx hb dX3_faultAsStanding_20 rfl (lv_at hl 0 rfl) ?_
          refine lv_iload (pc := 21) hx hb dX3_faultAsStanding_21 (lv_at hl 4 rfl) ?_
          obtain ⟨v5, hv23, hf⟩ := bd_e hf
          refine ro_Vi (pc := 23) (As := [.int y2]) (rest := []) E (c_X3_signAt l D cI cJ cZ cS pa_A pa_signs_A pa_signs pa_count y2 v5 hv23) F_X3_signAt rfl rfl tw_268 tw_269 tw_270 hP ⟨by decide, by decide⟩ rfl hl.1 (Nat.le_of_ble_eq_true rfl) ⟨by decide, by decide⟩ rfl dX3_faultAsStanding_23 ?_
          refine lv_bipush (pc := 26) (v := (48 : Int32)) hx hb dX3_faultAsStanding_26 (by decide) ?_
          refine lv_isub (pc := 28) hx hb dX3_faultAsStanding_28 ?_
          refine lv_istore (pc := 29) (lv' := [(5, .int (v5 - (48 : Int32))), (0, .ref pa_A), (1, .int p1), (2, .int p2), (3, .int y1), (4, .int y2)]) hx hb dX3_faultAsStanding_29 hl (by decide) rfl (fun ls hl => ?_)
          refine lv_iload (pc := 31) hx hb dX3_faultAsStanding_31 (lv_at hl 0 rfl) ?_
          refine lv_iconst (pc := 33) (v := (0 : Int32)) hx hb dX3_faultAsStanding_33 (by decide) ?_
          refine lv_iload_n (pc := 34) hx hb dX3_faultAsStanding_34 rfl (lv_at hl 3 rfl) ?_
          refine lv_iconst (pc := 35) (v := (1 : Int32)) hx hb dX3_faultAsStanding_35 (by decide) ?_
          refine lv_isub (pc := 36) hx hb dX3_faultAsStanding_36 ?_
          obtain ⟨v6, hv37, hf⟩ := bd_e hf
          refine ro_SNi (pc := 37) (As := [.int (v5 - (48 : Int32)), .int (0 : Int32), .int (p2 - (1 : Int32))]) (rest := []) E (c_X8_within l D cI cJ cZ cS (v5 - (48 : Int32)) (0 : Int32) (p2 - (1 : Int32)) v6 hv37) F_X8_within tn_22 tw_218  va_P_nil ⟨by decide, by decide⟩ rfl hl.1 (Nat.le_of_ble_eq_true rfl) ⟨by decide, by decide⟩ rfl dX3_faultAsStanding_37 ?_
          refine r_if_eq (pc := 40) (tgt := 53) hx hb dX3_faultAsStanding_40 (by decide) hf (fun hf => ?_) (fun hf => ?_)
          · refine lv_iload (pc := 53) hx hb dX3_faultAsStanding_53 (lv_at hl 5 rfl) ?_
            exact hQ _ _ _ dX3_faultAsStanding_55 hf
          · refine lv_iload_n (pc := 43) hx hb dX3_faultAsStanding_43 rfl (lv_at hl 4 rfl) ?_
            refine lv_iload (pc := 44) hx hb dX3_faultAsStanding_44 (lv_at hl 0 rfl) ?_
            refine lv_ishr (pc := 46) hx hb dX3_faultAsStanding_46 ?_
            refine lv_iconst (pc := 47) (v := (1 : Int32)) hx hb dX3_faultAsStanding_47 (by decide) ?_
            refine lv_iand (pc := 48) hx hb dX3_faultAsStanding_48 ?_
            refine lv_iconst (pc := 49) (v := (1 : Int32)) hx hb dX3_faultAsStanding_49 (by decide) ?_
            refine r_ic_ne (pc := 50) (tgt := 56) hx hb dX3_faultAsStanding_50 (by decide) hf (fun hf => ?_) (fun hf => ?_)
            · refine lv_iload_n (pc := 56) hx hb dX3_faultAsStanding_56 rfl (lv_at hl 4 rfl) ?_
              refine lv_iconst (pc := 57) (v := (1 : Int32)) hx hb dX3_faultAsStanding_57 (by decide) ?_
              refine lv_iload (pc := 58) hx hb dX3_faultAsStanding_58 (lv_at hl 0 rfl) ?_
              refine lv_ishl (pc := 60) hx hb dX3_faultAsStanding_60 ?_
              refine lv_ior (pc := 61) hx hb dX3_faultAsStanding_61 ?_
              refine lv_istore_n (pc := 62) (lv' := [(3, .int (y1 ||| ((1 : Int32) <<< ((v5 - (48 : Int32)) &&& 31)))), (5, .int (v5 - (48 : Int32))), (0, .ref pa_A), (1, .int p1), (2, .int p2), (4, .int y2)]) hx hb dX3_faultAsStanding_62 rfl hl (by decide) rfl (fun ls hl => ?_)
              refine lv_iinc (pc := 63) (v := (y2 + (1 : Int32))) (lv' := [(4, .int (y2 + (1 : Int32))), (3, .int (y1 ||| ((1 : Int32) <<< ((v5 - (48 : Int32)) &&& 31)))), (5, .int (v5 - (48 : Int32))), (0, .ref pa_A), (1, .int p1), (2, .int p2)]) hx hb dX3_faultAsStanding_63 hl (k := 5) rfl (by rfl) (by decide) rfl (fun ls hl => ?_)
              refine lv_goto (pc := 66) (tgt := 5) hx hb dX3_faultAsStanding_66 (by decide) ?_
              exact ih _ _ _ hf (lv_sub hl [3, 4, 5, 1, 0] rfl)
            · refine lv_iload (pc := 53) hx hb dX3_faultAsStanding_53 (lv_at hl 5 rfl) ?_
              exact hQ _ _ _ dX3_faultAsStanding_55 hf
  exact L5 N _ _ _ hf (lv_sub hl [2, 3, 4, 1, 0] rfl)
theorem F_X3_readStanding : CalF yX3_readStanding cX3_readStanding 4 none 2 := ⟨tw_585, tw_2, by decide +kernel⟩
set_option maxRecDepth 100000 in
set_option maxHeartbeats 4000000 in
theorem c_X3_readStanding (l : Launch) (D : va_G) (cI cJ cZ cS : ClassId) (N : Nat) (pa_A pa_signs_A ar_A : Nat) (pa_signs : Nat → Int32) (pa_count : Int32) (ar : Nat → Int32) (p2 : Int32) (sz : Nat) (r_ar : Nat → Int32) (hf : f_X3_readStanding N pa_signs pa_count ar p2 = some r_ar) : RwC l D cI cJ cZ cS yX3_readStanding cX3_readStanding 4 none 1 21 (w_X3A cI cJ cZ cS pa_A pa_signs_A ar_A pa_signs pa_count ar) sz [.ref pa_A, .ref ar_A, .int p2] none (w_X3A cI cJ cZ cS pa_A pa_signs_A ar_A pa_signs pa_count r_ar) := by
  refine rw_in_v (own := RX3) (by decide +kernel) rfl (Nat.le_of_ble_eq_true rfl) ?_
  intro p e s m args below meth c ls Q A E hA hQ hP hD hS hl
  obtain ⟨hx, hb, hml, hown, hts, hK, hN, hAO⟩ := id E
  have hl : lv_has ls 4 [(0, .ref pa_A), (1, .ref ar_A), (2, .int p2)] := hl
  unfold f_X3_readStanding at hf
  obtain ⟨H, hH⟩ : ∃ H, H = s.heap := ⟨_, rfl⟩
  obtain ⟨locs, hlocs⟩ : ∃ L : List Loc, L = [] := ⟨_, rfl⟩
  rw [show W p l e (roR 1 21) s m args below meth c s.heap [] 0 0 Q (F0 m 0 ls []) = W p l e (roR 1 21) s m args below meth c H locs 0 0 Q (F0 m 0 ls []) by rw [hH, hlocs]]
  replace hS : va_S A s.heap H locs := by rw [hH, hlocs]; exact hS
  replace hP : va_P D vwCl (w_X3A cI cJ cZ cS pa_A pa_signs_A ar_A pa_signs pa_count ar) H := by rw [hH]; exact hP
  clear hH hlocs
  refine lv_iconst (pc := 0) (v := (0 : Int32)) hx hb dX3_readStanding_0 (by decide) ?_
  refine lv_istore_n (pc := 1) (lv' := [(3, .int (0 : Int32)), (0, .ref pa_A), (1, .ref ar_A), (2, .int p2)]) hx hb dX3_readStanding_1 rfl hl (by decide) rfl (fun ls hl => ?_)
  obtain ⟨k4, hk4, hf⟩ := lc1_e hf
  have K4 : ∀ (ar_5 : Nat → Int32) (H : Heap) (locs : List Loc) (ls : Array Slot), k4 ar_5 = some r_ar → va_P D vwCl (w_X3A cI cJ cZ cS pa_A pa_signs_A ar_A pa_signs pa_count ar_5) H → va_D A (w_X3A cI cJ cZ cS pa_A pa_signs_A ar_A pa_signs pa_count ar_5) → va_S A s.heap H locs → lv_has ls 4 [] → W p l e (roR 1 21) s m args below meth c H locs 0 0 Q (F0 m 30 ls []) := by
    intro ar_5 H locs ls hf hP hD hS hl
    rw [hk4] at hf
    cases hf
    exact hQ _ _ _ _ dX3_readStanding_30 hP hD hS
  have L2 : ∀ (n : Nat), ∀ (y1 : Int32) (ar_2 : Nat → Int32) (H : Heap) (locs : List Loc) (ls : Array Slot), f_X3_readStanding_L2 pa_signs pa_count p2 k4 n y1 ar_2 = some r_ar → va_P D vwCl (w_X3A cI cJ cZ cS pa_A pa_signs_A ar_A pa_signs pa_count ar_2) H → va_D A (w_X3A cI cJ cZ cS pa_A pa_signs_A ar_A pa_signs pa_count ar_2) → va_S A s.heap H locs → lv_has ls 4 [(0, .ref pa_A), (1, .ref ar_A), (2, .int p2), (3, .int y1)] → W p l e (roR 1 21) s m args below meth c H locs 0 0 Q (F0 m 2 ls []) := by
    intro n
    induction n with
    | zero =>
      intro y1 ar_2 H locs ls hf
      rw [f_X3_readStanding_L2] at hf
      cases hf
    | succ n ih =>
      intro y1 ar_2 H locs ls hf hP hD hS hl
      rw [f_X3_readStanding_L2] at hf
      refine lv_iload_n (pc := 2) hx hb dX3_readStanding_2 rfl (lv_at hl 3 rfl) ?_
      refine lv_iload_n (pc := 3) hx hb dX3_readStanding_3 rfl (lv_at hl 2 rfl) ?_
      refine r_ic_ge (pc := 4) (tgt := 30) hx hb dX3_readStanding_4 (by decide) hf (fun hf => ?_) (fun hf => ?_)
      · exact K4 _ _ _ _ hf hP hD hS (lv_sub hl [] rfl)
      · refine lv_iload_n (pc := 7) hx hb dX3_readStanding_7 rfl (lv_at hl 3 rfl) ?_
        refine lv_aload_n (pc := 8) hx hb dX3_readStanding_8 rfl (lv_at hl 1 rfl) ?_
        refine va_alen (pc := 9) hx hb hK hP 2 0 rfl rfl (v := (8 : Int32)) rfl dX3_readStanding_9 ?_
        refine r_ic_ge (pc := 10) (tgt := 30) hx hb dX3_readStanding_10 (by decide) hf (fun hf => ?_) (fun hf => ?_)
        · exact K4 _ _ _ _ hf hP hD hS (lv_sub hl [] rfl)
        · refine lv_aload_n (pc := 13) hx hb dX3_readStanding_13 rfl (lv_at hl 1 rfl) ?_
          refine lv_iload_n (pc := 14) hx hb dX3_readStanding_14 rfl (lv_at hl 3 rfl) ?_
          refine lv_aload_n (pc := 15) hx hb dX3_readStanding_15 rfl (lv_at hl 0 rfl) ?_
          refine lv_iload_n (pc := 16) hx hb dX3_readStanding_16 rfl (lv_at hl 3 rfl) ?_
          obtain ⟨v6, hv17, hf⟩ := bd_e hf
          refine ro_Vi (pc := 17) (As := [.int y1]) (rest := [.int y1, .ref ar_A]) E (c_X3_signAt l D cI cJ cZ cS pa_A pa_signs_A pa_signs pa_count y1 v6 hv17) F_X3_signAt rfl rfl tw_268 tw_269 tw_270 (hP.subm [0, 1] rfl) ⟨by decide, by decide⟩ rfl hl.1 (Nat.le_of_ble_eq_true rfl) ⟨by decide, by decide⟩ rfl dX3_readStanding_17 ?_
          refine lv_bipush (pc := 20) (v := (48 : Int32)) hx hb dX3_readStanding_20 (by decide) ?_
          refine lv_isub (pc := 22) hx hb dX3_readStanding_22 ?_
          refine r_iast (pc := 23) hx hb hK hP hD hS 2 0 rfl rfl hf dX3_readStanding_23 (fun ar_7 H locs hf hP hD hS => ?_)
          have hP : va_P D vwCl (w_X3A cI cJ cZ cS pa_A pa_signs_A ar_A pa_signs pa_count ar_7) H := hP
          have hD : va_D A (w_X3A cI cJ cZ cS pa_A pa_signs_A ar_A pa_signs pa_count ar_7) := hD
          refine lv_iinc (pc := 24) (v := (y1 + (1 : Int32))) (lv' := [(3, .int (y1 + (1 : Int32))), (0, .ref pa_A), (1, .ref ar_A), (2, .int p2)]) hx hb dX3_readStanding_24 hl (k := 3) rfl (by rfl) (by decide) rfl (fun ls hl => ?_)
          refine lv_goto (pc := 27) (tgt := 2) hx hb dX3_readStanding_27 (by decide) ?_
          exact ih _ _ _ _ _ hf hP hD hS (lv_sub hl [1, 2, 3, 0] rfl)
  exact L2 N _ _ _ _ _ hf hP hD hS (lv_sub hl [1, 2, 3, 0] rfl)
