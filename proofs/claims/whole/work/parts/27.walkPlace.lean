theorem F_X4_bitOf : CalF yX4_bitOf cX4_bitOf 2 (some .long) 2 := ⟨tw_637, tw_9, by decide +kernel⟩
set_option maxRecDepth 100000 in
set_option maxHeartbeats 4000000 in
theorem c_X4_bitOf (l : Launch) (D : va_G) (cI cJ cZ cS : ClassId) (p1 : Int32) (p2 : Int32) (r : Int64) (hf : f_X4_bitOf p1 p2 = some r) : RoC l D cI cJ cZ cS yX4_bitOf cX4_bitOf 2 (some .long) 0 0 [] [.int p1, .int p2] (some (.long r)) := by
  refine ro_in_l (own := RX4) (by decide +kernel) rfl (Nat.le_of_ble_eq_true rfl) ?_
  intro p e s m args below meth c ls Q E hQ hP hl
  obtain ⟨hx, hb, hml, hown, hts, hK, hN, hAO⟩ := id E
  have hl : lv_has ls 2 [(0, .int p1), (1, .int p2)] := hl
  unfold f_X4_bitOf at hf
  refine lv_lconst (pc := 0) (v := (1 : Int64)) hx hb dX4_bitOf_0 (by decide) ?_
  refine lv_iload_n (pc := 1) hx hb dX4_bitOf_1 rfl (lv_at hl 0 rfl) ?_
  refine lv_bipush (pc := 2) (v := (8 : Int32)) hx hb dX4_bitOf_2 (by decide) ?_
  refine lv_imul (pc := 4) hx hb dX4_bitOf_4 ?_
  refine lv_iload_n (pc := 5) hx hb dX4_bitOf_5 rfl (lv_at hl 1 rfl) ?_
  refine lv_iadd (pc := 6) hx hb dX4_bitOf_6 ?_
  refine lv_lshl (pc := 7) (v := ((1 : Int64) <<< (Int32.toInt64 ((p1 * (8 : Int32)) + p2) &&& 63))) hx hb dX4_bitOf_7 rfl ?_
  exact hQ _ _ _ dX4_bitOf_8 hf
theorem F_X4_firstOf : CalF yX4_firstOf cX4_firstOf 2 (some .int) 1 := ⟨tw_654, tw_9, by decide +kernel⟩
set_option maxRecDepth 100000 in
set_option maxHeartbeats 4000000 in
theorem c_X4_firstOf (l : Launch) (D : va_G) (cI cJ cZ cS : ClassId) (pw_A pw_leaves_A pw_first_A : Nat) (pw_leaves : Nat → Int64) (pw_first : Nat → Int32) (pw_people : Int32) (pw_count : Int32) (p1 : Int32) (r : Int32) (hf : f_X4_firstOf pw_first p1 = some r) : RoC l D cI cJ cZ cS yX4_firstOf cX4_firstOf 2 (some .int) 0 0 (w_X4 cI cJ cZ cS pw_A pw_leaves_A pw_first_A pw_leaves pw_first pw_people pw_count) [.ref pw_A, .int p1] (some (.int r)) := by
  refine ro_in_i (own := RX4) (by decide +kernel) rfl (Nat.le_of_ble_eq_true rfl) ?_
  intro p e s m args below meth c ls Q E hQ hP hl
  obtain ⟨hx, hb, hml, hown, hts, hK, hN, hAO⟩ := id E
  have hl : lv_has ls 2 [(0, .ref pw_A), (1, .int p1)] := hl
  unfold f_X4_firstOf at hf
  refine lv_aload_n (pc := 0) hx hb dX4_firstOf_0 rfl (lv_at hl 0 rfl) ?_
  refine va_get (pc := 1) (D := D) (ci := 4) (v := .ref pw_first_A) (C := RX4) (T := TX4) (N := 4) hx hb hts inG4 hown hK hP 0 rfl rfl 1 (by decide) (hts _ tw_180) (fun _ h9 => h9) rfl dX4_firstOf_1 ?_
  refine lv_iload_n (pc := 4) hx hb dX4_firstOf_4 rfl (lv_at hl 1 rfl) ?_
  refine r_iald (pc := 5) hx hb hK hP 2 0 rfl rfl hf dX4_firstOf_5 (fun v1 hf => ?_)
  exact hQ _ _ _ dX4_firstOf_6 hf
theorem F_X4_noteFirst : CalF yX4_noteFirst cX4_noteFirst 3 none 2 := ⟨tw_649, tw_9, by decide +kernel⟩
set_option maxRecDepth 100000 in
set_option maxHeartbeats 4000000 in
theorem c_X4_noteFirst (l : Launch) (D : va_G) (cI cJ cZ cS : ClassId) (pw_A pw_leaves_A pw_first_A : Nat) (pw_leaves : Nat → Int64) (pw_first : Nat → Int32) (pw_people : Int32) (pw_count : Int32) (p1 : Int32) (p2 : Int32) (sz : Nat) (r_pw_first : Nat → Int32) (hf : f_X4_noteFirst pw_first p1 p2 = some r_pw_first) : RwC l D cI cJ cZ cS yX4_noteFirst cX4_noteFirst 3 none 0 0 (w_X4 cI cJ cZ cS pw_A pw_leaves_A pw_first_A pw_leaves pw_first pw_people pw_count) sz [.ref pw_A, .int p1, .int p2] none (w_X4 cI cJ cZ cS pw_A pw_leaves_A pw_first_A pw_leaves r_pw_first pw_people pw_count) := by
  refine rw_in_v (own := RX4) (by decide +kernel) rfl (Nat.le_of_ble_eq_true rfl) ?_
  intro p e s m args below meth c ls Q A E hA hQ hP hD hS hl
  obtain ⟨hx, hb, hml, hown, hts, hK, hN, hAO⟩ := id E
  have hl : lv_has ls 3 [(0, .ref pw_A), (1, .int p1), (2, .int p2)] := hl
  unfold f_X4_noteFirst at hf
  obtain ⟨H, hH⟩ : ∃ H, H = s.heap := ⟨_, rfl⟩
  obtain ⟨locs, hlocs⟩ : ∃ L : List Loc, L = [] := ⟨_, rfl⟩
  rw [show W p l e (roR 0 0) s m args below meth c s.heap [] 0 0 Q (F0 m 0 ls []) = W p l e (roR 0 0) s m args below meth c H locs 0 0 Q (F0 m 0 ls []) by rw [hH, hlocs]]
  replace hS : va_S A s.heap H locs := by rw [hH, hlocs]; exact hS
  replace hP : va_P D vwCl (w_X4 cI cJ cZ cS pw_A pw_leaves_A pw_first_A pw_leaves pw_first pw_people pw_count) H := by rw [hH]; exact hP
  clear hH hlocs
  refine lv_aload_n (pc := 0) hx hb dX4_noteFirst_0 rfl (lv_at hl 0 rfl) ?_
  refine va_get (pc := 1) (D := D) (ci := 4) (v := .ref pw_first_A) (C := RX4) (T := TX4) (N := 4) hx hb hts inG4 hown hK hP 0 rfl rfl 1 (by decide) (hts _ tw_180) (fun _ h9 => h9) rfl dX4_noteFirst_1 ?_
  refine lv_iload_n (pc := 4) hx hb dX4_noteFirst_4 rfl (lv_at hl 1 rfl) ?_
  refine r_iald (pc := 5) hx hb hK hP 2 0 rfl rfl hf dX4_noteFirst_5 (fun v1 hf => ?_)
  refine lv_bipush (pc := 6) (v := (-6 : Int32)) hx hb dX4_noteFirst_6 (by decide) ?_
  refine r_ic_ne (pc := 8) (tgt := 18) hx hb dX4_noteFirst_8 (by decide) hf (fun hf => ?_) (fun hf => ?_)
  · cases hf
    exact hQ _ _ _ _ dX4_noteFirst_18 hP hD hS
  · refine lv_aload_n (pc := 11) hx hb dX4_noteFirst_11 rfl (lv_at hl 0 rfl) ?_
    refine va_get (pc := 12) (D := D) (ci := 4) (v := .ref pw_first_A) (C := RX4) (T := TX4) (N := 4) hx hb hts inG4 hown hK hP 0 rfl rfl 1 (by decide) (hts _ tw_180) (fun _ h9 => h9) rfl dX4_noteFirst_12 ?_
    refine lv_iload_n (pc := 15) hx hb dX4_noteFirst_15 rfl (lv_at hl 1 rfl) ?_
    refine lv_iload_n (pc := 16) hx hb dX4_noteFirst_16 rfl (lv_at hl 2 rfl) ?_
    refine r_iast (pc := 17) hx hb hK hP hD hS 2 0 rfl rfl hf dX4_noteFirst_17 (fun pw_first_2 H locs hf hP hD hS => ?_)
    have hP : va_P D vwCl (w_X4 cI cJ cZ cS pw_A pw_leaves_A pw_first_A pw_leaves pw_first_2 pw_people pw_count) H := hP
    have hD : va_D A (w_X4 cI cJ cZ cS pw_A pw_leaves_A pw_first_A pw_leaves pw_first_2 pw_people pw_count) := hD
    cases hf
    exact hQ _ _ _ _ dX4_noteFirst_18 hP hD hS
theorem F_X4_leftBehind : CalF yX4_leftBehind cX4_leftBehind 8 (some .long) 3 := ⟨tw_630, tw_9, by decide +kernel⟩
set_option maxRecDepth 100000 in
set_option maxHeartbeats 4000000 in
theorem c_X4_leftBehind (l : Launch) (D : va_G) (cI cJ cZ cS : ClassId) (N : Nat) (pw_A pw_leaves_A pw_first_A st_A st_talls_A st_pairs_A : Nat) (pw_leaves : Nat → Int64) (pw_first : Nat → Int32) (pw_people : Int32) (pw_count : Int32) (st_rows : Int32) (st_columns : Int32) (st_rise : Int32) (st_talls : Nat → Int32) (st_pairs : Nat → Int32) (st_changed : Int32) (p2 : Int32) (p3 : Int32) (r : Int64) (hf : f_X4_leftBehind N pw_people st_rows st_columns st_rise st_talls st_pairs p2 p3 = some r) : RoC l D cI cJ cZ cS yX4_leftBehind cX4_leftBehind 8 (some .long) 4 97 (w_X4X7 cI cJ cZ cS pw_A pw_leaves_A pw_first_A st_A st_talls_A st_pairs_A pw_leaves pw_first pw_people pw_count st_rows st_columns st_rise st_talls st_pairs st_changed) [.ref pw_A, .ref st_A, .int p2, .int p3] (some (.long r)) := by
  refine ro_in_l (own := RX4) (by decide +kernel) rfl (Nat.le_of_ble_eq_true rfl) ?_
  intro p e s m args below meth c ls Q E hQ hP hl
  obtain ⟨hx, hb, hml, hown, hts, hK, hN, hAO⟩ := id E
  have hl : lv_has ls 8 [(0, .ref pw_A), (1, .ref st_A), (2, .int p2), (3, .int p3)] := hl
  unfold f_X4_leftBehind at hf
  refine lv_lconst (pc := 0) (v := (0 : Int64)) hx hb dX4_leftBehind_0 (by decide) ?_
  refine lv_lstore (pc := 1) (lv' := [(4, .long (0 : Int64)), (0, .ref pw_A), (1, .ref st_A), (2, .int p2), (3, .int p3)]) hx hb dX4_leftBehind_1 hl (by decide) rfl (fun ls hl => ?_)
  refine lv_iload_n (pc := 3) hx hb dX4_leftBehind_3 rfl (lv_at hl 3 rfl) ?_
  refine lv_iconst (pc := 4) (v := (1 : Int32)) hx hb dX4_leftBehind_4 (by decide) ?_
  refine lv_iadd (pc := 5) hx hb dX4_leftBehind_5 ?_
  refine lv_istore (pc := 6) (lv' := [(6, .int (p2 + (1 : Int32))), (4, .long (0 : Int64)), (0, .ref pw_A), (1, .ref st_A), (2, .int p2), (3, .int p3)]) hx hb dX4_leftBehind_6 hl (by decide) rfl (fun ls hl => ?_)
  obtain ⟨k4, hk4, hf⟩ := lc1_e hf
  have K4 : ∀ (z5 : Int64) (ls : Array Slot), k4 z5 = some r → lv_has ls 8 [(4, .long z5)] → W p l e (roR 4 97) s m args below meth c s.heap [] 0 0 Q (F0 m 66 ls []) := by
    intro z5 ls hf hl
    rw [hk4] at hf
    refine lv_lload (pc := 66) hx hb dX4_leftBehind_66 (lv_at hl 0 rfl) ?_
    exact hQ _ _ _ dX4_leftBehind_68 hf
  have L8 : ∀ (n : Nat), ∀ (y1 : Int64) (y2 : Int32) (ls : Array Slot), f_X4_leftBehind_L8 pw_people st_rows st_columns st_rise st_talls st_pairs p2 p3 N k4 n y1 y2 = some r → lv_has ls 8 [(0, .ref pw_A), (1, .ref st_A), (2, .int p2), (3, .int p3), (4, .long y1), (6, .int y2)] → W p l e (roR 4 97) s m args below meth c s.heap [] 0 0 Q (F0 m 8 ls []) := by
    intro n
    induction n with
    | zero =>
      intro y1 y2 ls hf
      rw [f_X4_leftBehind_L8] at hf
      cases hf
    | succ n ih =>
      intro y1 y2 ls hf hl
      rw [f_X4_leftBehind_L8] at hf
      refine lv_iload (pc := 8) hx hb dX4_leftBehind_8 (lv_at hl 5 rfl) ?_
      refine lv_aload_n (pc := 10) hx hb dX4_leftBehind_10 rfl (lv_at hl 0 rfl) ?_
      refine va_get (pc := 11) (D := D) (ci := 4) (v := .int pw_people) (C := RX4) (T := TX4) (N := 4) hx hb hts inG4 hown hK hP 0 rfl rfl 2 (by decide) (hts _ tw_181) (fun _ h9 => h9) rfl dX4_leftBehind_11 ?_
      refine r_ic_ge (pc := 14) (tgt := 66) hx hb dX4_leftBehind_14 (by decide) hf (fun hf => ?_) (fun hf => ?_)
      · exact K4 _ _ hf (lv_sub hl [4] rfl)
      · refine lv_iconst (pc := 17) (v := (0 : Int32)) hx hb dX4_leftBehind_17 (by decide) ?_
        refine lv_istore (pc := 18) (lv' := [(7, .int (0 : Int32)), (0, .ref pw_A), (1, .ref st_A), (2, .int p2), (3, .int p3), (4, .long y1), (6, .int y2)]) hx hb dX4_leftBehind_18 hl (by decide) rfl (fun ls hl => ?_)
        obtain ⟨k9, hk9, hf⟩ := lc1_e hf
        have K9 : ∀ (z10 : Int64) (ls : Array Slot), k9 z10 = some r → lv_has ls 8 [(0, .ref pw_A), (1, .ref st_A), (2, .int p2), (3, .int p3), (4, .long z10), (6, .int y2)] → W p l e (roR 4 97) s m args below meth c s.heap [] 0 0 Q (F0 m 60 ls []) := by
          intro z10 ls hf hl
          rw [hk9] at hf
          refine lv_iinc (pc := 60) (v := (y2 + (1 : Int32))) (lv' := [(6, .int (y2 + (1 : Int32))), (0, .ref pw_A), (1, .ref st_A), (2, .int p2), (3, .int p3), (4, .long z10)]) hx hb dX4_leftBehind_60 hl (k := 5) rfl (by rfl) (by decide) rfl (fun ls hl => ?_)
          refine lv_goto (pc := 63) (tgt := 8) hx hb dX4_leftBehind_63 (by decide) ?_
          exact ih _ _ _ hf (lv_sub hl [1, 2, 3, 4, 5, 0] rfl)
        have L20 : ∀ (n : Nat), ∀ (y6 : Int64) (y7 : Int32) (ls : Array Slot), f_X4_leftBehind_L20 st_rows st_columns st_rise st_talls st_pairs p2 p3 y2 k9 n y6 y7 = some r → lv_has ls 8 [(0, .ref pw_A), (1, .ref st_A), (2, .int p2), (3, .int p3), (4, .long y6), (6, .int y2), (7, .int y7)] → W p l e (roR 4 97) s m args below meth c s.heap [] 0 0 Q (F0 m 20 ls []) := by
          intro n
          induction n with
          | zero =>
            intro y6 y7 ls hf
            rw [f_X4_leftBehind_L20] at hf
            cases hf
          | succ n ih =>
            intro y6 y7 ls hf hl
            rw [f_X4_leftBehind_L20] at hf
            refine lv_iload (pc := 20) hx hb dX4_leftBehind_20 (lv_at hl 6 rfl) ?_
            refine lv_aload_n (pc := 22) hx hb dX4_leftBehind_22 rfl (lv_at hl 1 rfl) ?_
            obtain ⟨v11, hv23, hf⟩ := bd_e hf
            refine ro_Vi (pc := 23) (As := []) (rest := [.int y7]) E (c_X7_places l D cI cJ cZ cS st_A st_talls_A st_pairs_A st_rows st_columns st_rise st_talls st_pairs st_changed v11 hv23) F_X7_places rfl rfl tw_626 tw_287 tw_288 (hP.subm [3, 4, 5] rfl) ⟨by decide, by decide⟩ rfl hl.1 (Nat.le_of_ble_eq_true rfl) ⟨by decide, by decide⟩ rfl dX4_leftBehind_23 ?_
            refine r_ic_ge (pc := 26) (tgt := 60) hx hb dX4_leftBehind_26 (by decide) hf (fun hf => ?_) (fun hf => ?_)
            · exact K9 _ _ hf (lv_sub hl [0, 1, 2, 3, 4, 5] rfl)
            · refine lv_aload_n (pc := 29) hx hb dX4_leftBehind_29 rfl (lv_at hl 1 rfl) ?_
              refine lv_iload_n (pc := 30) hx hb dX4_leftBehind_30 rfl (lv_at hl 2 rfl) ?_
              refine lv_iload_n (pc := 31) hx hb dX4_leftBehind_31 rfl (lv_at hl 3 rfl) ?_
              refine lv_iload (pc := 32) hx hb dX4_leftBehind_32 (lv_at hl 5 rfl) ?_
              refine lv_iload (pc := 34) hx hb dX4_leftBehind_34 (lv_at hl 6 rfl) ?_
              obtain ⟨v12, hv36, hf⟩ := bd_e hf
              refine ro_Vi (pc := 36) (As := [.int p2, .int p3, .int y2, .int y7]) (rest := []) E (c_X7_suits l D cI cJ cZ cS st_A st_talls_A st_pairs_A st_rows st_columns st_rise st_talls st_pairs st_changed p2 p3 y2 y7 v12 hv36) F_X7_suits rfl rfl tw_631 tw_632 tw_633 (hP.subm [3, 4, 5] rfl) ⟨by decide, by decide⟩ rfl hl.1 (Nat.le_of_ble_eq_true rfl) ⟨by decide, by decide⟩ rfl dX4_leftBehind_36 ?_
              obtain ⟨k13, hk13, hf⟩ := lc1_e hf
              have K13 : ∀ (x15 : Int64) (ls : Array Slot), k13 x15 = some r → lv_has ls 8 [(0, .ref pw_A), (1, .ref st_A), (2, .int p2), (3, .int p3), (4, .long x15), (6, .int y2), (7, .int y7)] → W p l e (roR 4 97) s m args below meth c s.heap [] 0 0 Q (F0 m 54 ls []) := by
                intro x15 ls hf hl
                rw [hk13] at hf
                refine lv_iinc (pc := 54) (v := (y7 + (1 : Int32))) (lv' := [(7, .int (y7 + (1 : Int32))), (0, .ref pw_A), (1, .ref st_A), (2, .int p2), (3, .int p3), (4, .long x15), (6, .int y2)]) hx hb dX4_leftBehind_54 hl (k := 6) rfl (by rfl) (by decide) rfl (fun ls hl => ?_)
                refine lv_goto (pc := 57) (tgt := 20) hx hb dX4_leftBehind_57 (by decide) ?_
                exact ih _ _ _ hf (lv_sub hl [1, 2, 3, 4, 5, 6, 0] rfl)
              refine r_if_eq (pc := 39) (tgt := 54) hx hb dX4_leftBehind_39 (by decide) hf (fun hf => ?_) (fun hf => ?_)
              · exact K13 _ _ hf hl
              · refine lv_lload (pc := 42) hx hb dX4_leftBehind_42 (lv_at hl 4 rfl) ?_
                refine lv_iload (pc := 44) hx hb dX4_leftBehind_44 (lv_at hl 5 rfl) ?_
                refine lv_iload (pc := 46) hx hb dX4_leftBehind_46 (lv_at hl 6 rfl) ?_
                obtain ⟨v14, hv48, hf⟩ := bd_e hf
                refine ro_Sl (pc := 48) (As := [.int y2, .int y7]) (rest := [.long y6]) E (c_X4_bitOf l D cI cJ cZ cS y2 y7 v14 hv48) F_X4_bitOf tw_635 tw_636  va_P_nil ⟨by decide, by decide⟩ rfl hl.1 (Nat.le_of_ble_eq_true rfl) ⟨by decide, by decide⟩ rfl dX4_leftBehind_48 ?_
                refine lv_lor (pc := 51) hx hb dX4_leftBehind_51 ?_
                refine lv_lstore (pc := 52) (lv' := [(4, .long (y6 ||| v14)), (0, .ref pw_A), (1, .ref st_A), (2, .int p2), (3, .int p3), (6, .int y2), (7, .int y7)]) hx hb dX4_leftBehind_52 hl (by decide) rfl (fun ls hl => ?_)
                exact K13 _ _ hf (lv_sub hl [1, 2, 3, 4, 0, 5, 6] rfl)
        exact L20 N _ _ _ hf (lv_sub hl [1, 2, 3, 4, 5, 6, 0] rfl)
  exact L8 N _ _ _ hf (lv_sub hl [2, 3, 4, 5, 1, 0] rfl)
theorem F_X4_allPlaces : CalF yX4_allPlaces cX4_allPlaces 6 (some .long) 1 := ⟨tw_641, tw_9, by decide +kernel⟩
set_option maxRecDepth 100000 in
set_option maxHeartbeats 4000000 in
theorem c_X4_allPlaces (l : Launch) (D : va_G) (cI cJ cZ cS : ClassId) (N : Nat) (pw_A pw_leaves_A pw_first_A st_A st_talls_A st_pairs_A : Nat) (pw_leaves : Nat → Int64) (pw_first : Nat → Int32) (pw_people : Int32) (pw_count : Int32) (st_rows : Int32) (st_columns : Int32) (st_rise : Int32) (st_talls : Nat → Int32) (st_pairs : Nat → Int32) (st_changed : Int32) (r : Int64) (hf : f_X4_allPlaces N pw_people st_rows st_columns = some r) : RoC l D cI cJ cZ cS yX4_allPlaces cX4_allPlaces 6 (some .long) 1 21 (w_X4X7 cI cJ cZ cS pw_A pw_leaves_A pw_first_A st_A st_talls_A st_pairs_A pw_leaves pw_first pw_people pw_count st_rows st_columns st_rise st_talls st_pairs st_changed) [.ref pw_A, .ref st_A] (some (.long r)) := by
  refine ro_in_l (own := RX4) (by decide +kernel) rfl (Nat.le_of_ble_eq_true rfl) ?_
  intro p e s m args below meth c ls Q E hQ hP hl
  obtain ⟨hx, hb, hml, hown, hts, hK, hN, hAO⟩ := id E
  have hl : lv_has ls 6 [(0, .ref pw_A), (1, .ref st_A)] := hl
  unfold f_X4_allPlaces at hf
  refine lv_lconst (pc := 0) (v := (0 : Int64)) hx hb dX4_allPlaces_0 (by decide) ?_
  refine lv_lstore_n (pc := 1) (lv' := [(2, .long (0 : Int64)), (0, .ref pw_A), (1, .ref st_A)]) hx hb dX4_allPlaces_1 rfl hl (by decide) rfl (fun ls hl => ?_)
  refine lv_iconst (pc := 2) (v := (0 : Int32)) hx hb dX4_allPlaces_2 (by decide) ?_
  refine lv_istore (pc := 3) (lv' := [(4, .int (0 : Int32)), (2, .long (0 : Int64)), (0, .ref pw_A), (1, .ref st_A)]) hx hb dX4_allPlaces_3 hl (by decide) rfl (fun ls hl => ?_)
  obtain ⟨k4, hk4, hf⟩ := lc1_e hf
  have K4 : ∀ (z5 : Int64) (ls : Array Slot), k4 z5 = some r → lv_has ls 6 [(2, .long z5)] → W p l e (roR 1 21) s m args below meth c s.heap [] 0 0 Q (F0 m 48 ls []) := by
    intro z5 ls hf hl
    rw [hk4] at hf
    refine lv_lload_n (pc := 48) hx hb dX4_allPlaces_48 rfl (lv_at hl 0 rfl) ?_
    exact hQ _ _ _ dX4_allPlaces_49 hf
  have L5 : ∀ (n : Nat), ∀ (y1 : Int64) (y2 : Int32) (ls : Array Slot), f_X4_allPlaces_L5 pw_people st_rows st_columns N k4 n y1 y2 = some r → lv_has ls 6 [(0, .ref pw_A), (1, .ref st_A), (2, .long y1), (4, .int y2)] → W p l e (roR 1 21) s m args below meth c s.heap [] 0 0 Q (F0 m 5 ls []) := by
    intro n
    induction n with
    | zero =>
      intro y1 y2 ls hf
      rw [f_X4_allPlaces_L5] at hf
      cases hf
    | succ n ih =>
      intro y1 y2 ls hf hl
      rw [f_X4_allPlaces_L5] at hf
      refine lv_iload (pc := 5) hx hb dX4_allPlaces_5 (lv_at hl 3 rfl) ?_
      refine lv_aload_n (pc := 7) hx hb dX4_allPlaces_7 rfl (lv_at hl 0 rfl) ?_
      refine va_get (pc := 8) (D := D) (ci := 4) (v := .int pw_people) (C := RX4) (T := TX4) (N := 4) hx hb hts inG4 hown hK hP 0 rfl rfl 2 (by decide) (hts _ tw_181) (fun _ h9 => h9) rfl dX4_allPlaces_8 ?_
      refine r_ic_ge (pc := 11) (tgt := 48) hx hb dX4_allPlaces_11 (by decide) hf (fun hf => ?_) (fun hf => ?_)
      · exact K4 _ _ hf (lv_sub hl [2] rfl)
      · refine lv_iconst (pc := 14) (v := (0 : Int32)) hx hb dX4_allPlaces_14 (by decide) ?_
        refine lv_istore (pc := 15) (lv' := [(5, .int (0 : Int32)), (0, .ref pw_A), (1, .ref st_A), (2, .long y1), (4, .int y2)]) hx hb dX4_allPlaces_15 hl (by decide) rfl (fun ls hl => ?_)
        obtain ⟨k9, hk9, hf⟩ := lc1_e hf
        have K9 : ∀ (z10 : Int64) (ls : Array Slot), k9 z10 = some r → lv_has ls 6 [(0, .ref pw_A), (1, .ref st_A), (2, .long z10), (4, .int y2)] → W p l e (roR 1 21) s m args below meth c s.heap [] 0 0 Q (F0 m 42 ls []) := by
          intro z10 ls hf hl
          rw [hk9] at hf
          refine lv_iinc (pc := 42) (v := (y2 + (1 : Int32))) (lv' := [(4, .int (y2 + (1 : Int32))), (0, .ref pw_A), (1, .ref st_A), (2, .long z10)]) hx hb dX4_allPlaces_42 hl (k := 3) rfl (by rfl) (by decide) rfl (fun ls hl => ?_)
          refine lv_goto (pc := 45) (tgt := 5) hx hb dX4_allPlaces_45 (by decide) ?_
          exact ih _ _ _ hf (lv_sub hl [1, 2, 3, 0] rfl)
        have L17 : ∀ (n : Nat), ∀ (y6 : Int64) (y7 : Int32) (ls : Array Slot), f_X4_allPlaces_L17 st_rows st_columns y2 k9 n y6 y7 = some r → lv_has ls 6 [(0, .ref pw_A), (1, .ref st_A), (2, .long y6), (4, .int y2), (5, .int y7)] → W p l e (roR 1 21) s m args below meth c s.heap [] 0 0 Q (F0 m 17 ls []) := by
          intro n
          induction n with
          | zero =>
            intro y6 y7 ls hf
            rw [f_X4_allPlaces_L17] at hf
            cases hf
          | succ n ih =>
            intro y6 y7 ls hf hl
            rw [f_X4_allPlaces_L17] at hf
            refine lv_iload (pc := 17) hx hb dX4_allPlaces_17 (lv_at hl 4 rfl) ?_
            refine lv_aload_n (pc := 19) hx hb dX4_allPlaces_19 rfl (lv_at hl 1 rfl) ?_
            obtain ⟨v11, hv20, hf⟩ := bd_e hf
            refine ro_Vi (pc := 20) (As := []) (rest := [.int y7]) E (c_X7_places l D cI cJ cZ cS st_A st_talls_A st_pairs_A st_rows st_columns st_rise st_talls st_pairs st_changed v11 hv20) F_X7_places rfl rfl tw_626 tw_287 tw_288 (hP.subm [3, 4, 5] rfl) ⟨by decide, by decide⟩ rfl hl.1 (Nat.le_of_ble_eq_true rfl) ⟨by decide, by decide⟩ rfl dX4_allPlaces_20 ?_
            refine r_ic_ge (pc := 23) (tgt := 42) hx hb dX4_allPlaces_23 (by decide) hf (fun hf => ?_) (fun hf => ?_)
            · exact K9 _ _ hf (lv_sub hl [0, 1, 2, 3] rfl)
            · refine lv_lload_n (pc := 26) hx hb dX4_allPlaces_26 rfl (lv_at hl 2 rfl) ?_
              refine lv_iload (pc := 27) hx hb dX4_allPlaces_27 (lv_at hl 3 rfl) ?_
              refine lv_iload (pc := 29) hx hb dX4_allPlaces_29 (lv_at hl 4 rfl) ?_
              obtain ⟨v12, hv31, hf⟩ := bd_e hf
              refine ro_Sl (pc := 31) (As := [.int y2, .int y7]) (rest := [.long y6]) E (c_X4_bitOf l D cI cJ cZ cS y2 y7 v12 hv31) F_X4_bitOf tw_635 tw_636  va_P_nil ⟨by decide, by decide⟩ rfl hl.1 (Nat.le_of_ble_eq_true rfl) ⟨by decide, by decide⟩ rfl dX4_allPlaces_31 ?_
              refine lv_lor (pc := 34) hx hb dX4_allPlaces_34 ?_
              refine lv_lstore_n (pc := 35) (lv' := [(2, .long (y6 ||| v12)), (0, .ref pw_A), (1, .ref st_A), (4, .int y2), (5, .int y7)]) hx hb dX4_allPlaces_35 rfl hl (by decide) rfl (fun ls hl => ?_)
              refine lv_iinc (pc := 36) (v := (y7 + (1 : Int32))) (lv' := [(5, .int (y7 + (1 : Int32))), (2, .long (y6 ||| v12)), (0, .ref pw_A), (1, .ref st_A), (4, .int y2)]) hx hb dX4_allPlaces_36 hl (k := 4) rfl (by rfl) (by decide) rfl (fun ls hl => ?_)
              refine lv_goto (pc := 39) (tgt := 17) hx hb dX4_allPlaces_39 (by decide) ?_
              exact ih _ _ _ hf (lv_sub hl [2, 3, 1, 4, 0] rfl)
        exact L17 N _ _ _ hf (lv_sub hl [1, 2, 3, 4, 0] rfl)
  exact L5 N _ _ _ hf (lv_sub hl [2, 3, 1, 0] rfl)
theorem F_X4_countFrom : CalF yX4_countFrom cX4_countFrom 8 (some .int) 3 := ⟨tw_644, tw_9, by decide +kernel⟩
set_option maxRecDepth 100000 in
set_option maxHeartbeats 4000000 in
theorem o_X4_countFrom (l : Launch) (D : va_G) (cI cJ cZ cS : ClassId) (N fr0 lo0 : Nat) (rc : (Nat → Int64) → (Nat → Int32) → (Int32) → Int32 → Int64 → Option (Int32 × (Nat → Int32))) (hrc : ∀ (pw_A pw_leaves_A pw_first_A : Nat) (pw_leaves : Nat → Int64) (pw_first : Nat → Int32) (pw_people : Int32) (pw_count : Int32) (p2 : Int32) (p3 : Int64) (sz : Nat) (r : Int32) (r_pw_first : Nat → Int32), rc pw_leaves pw_first pw_people p2 p3 = some (r, r_pw_first) → RwC l D cI cJ cZ cS yX4_countFrom cX4_countFrom 8 (some .int) fr0 lo0 (w_X4 cI cJ cZ cS pw_A pw_leaves_A pw_first_A pw_leaves pw_first pw_people pw_count) sz [.ref pw_A, .int p2, .long p3] (some (.int r)) (w_X4 cI cJ cZ cS pw_A pw_leaves_A pw_first_A pw_leaves r_pw_first pw_people pw_count)) (pw_A pw_leaves_A pw_first_A : Nat) (pw_leaves : Nat → Int64) (pw_first : Nat → Int32) (pw_people : Int32) (pw_count : Int32) (p2 : Int32) (p3 : Int64) (sz : Nat) (r : Int32) (r_pw_first : Nat → Int32) (hf : g_X4_countFrom rc N pw_leaves pw_first pw_people p2 p3 = some (r, r_pw_first)) : RwC l D cI cJ cZ cS yX4_countFrom cX4_countFrom 8 (some .int) (fr0 + 2) (lo0 + 60) (w_X4 cI cJ cZ cS pw_A pw_leaves_A pw_first_A pw_leaves pw_first pw_people pw_count) sz [.ref pw_A, .int p2, .long p3] (some (.int r)) (w_X4 cI cJ cZ cS pw_A pw_leaves_A pw_first_A pw_leaves r_pw_first pw_people pw_count) := by
  refine rw_in_i (own := RX4) (by decide +kernel) rfl (Nat.le_of_ble_eq_true rfl) ?_
  intro p e s m args below meth c ls Q A E hA hQ hP hD hS hl
  obtain ⟨hx, hb, hml, hown, hts, hK, hN, hAO⟩ := id E
  have hl : lv_has ls 8 [(0, .ref pw_A), (1, .int p2), (2, .long p3)] := hl
  unfold g_X4_countFrom at hf
  obtain ⟨H, hH⟩ : ∃ H, H = s.heap := ⟨_, rfl⟩
  obtain ⟨locs, hlocs⟩ : ∃ L : List Loc, L = [] := ⟨_, rfl⟩
  rw [show W p l e (roR (fr0 + 2) (lo0 + 60)) s m args below meth c s.heap [] 0 0 Q (F0 m 0 ls []) = W p l e (roR (fr0 + 2) (lo0 + 60)) s m args below meth c H locs 0 0 Q (F0 m 0 ls []) by rw [hH, hlocs]]
  replace hS : va_S A s.heap H locs := by rw [hH, hlocs]; exact hS
  replace hP : va_P D vwCl (w_X4 cI cJ cZ cS pw_A pw_leaves_A pw_first_A pw_leaves pw_first pw_people pw_count) H := by rw [hH]; exact hP
  clear hH hlocs
  refine lv_iload_n (pc := 0) hx hb dX4_countFrom_0 rfl (lv_at hl 1 rfl) ?_
  refine r_if_lt (pc := 1) (tgt := 12) hx hb dX4_countFrom_1 (by decide) hf (fun hf => ?_) (fun hf => ?_)
  · refine lv_iconst (pc := 12) (v := (1 : Int32)) hx hb dX4_countFrom_12 (by decide) ?_
    cases hf
    exact hQ _ _ _ _ _ dX4_countFrom_13 rfl hP hD hS
  · refine lv_iload_n (pc := 4) hx hb dX4_countFrom_4 rfl (lv_at hl 1 rfl) ?_
    refine lv_aload_n (pc := 5) hx hb dX4_countFrom_5 rfl (lv_at hl 0 rfl) ?_
    refine va_get (pc := 6) (D := D) (ci := 4) (v := .int pw_people) (C := RX4) (T := TX4) (N := 4) hx hb hts inG4 hown hK hP 0 rfl rfl 2 (by decide) (hts _ tw_181) (fun _ h9 => h9) rfl dX4_countFrom_6 ?_
    refine r_ic_lt (pc := 9) (tgt := 14) hx hb dX4_countFrom_9 (by decide) hf (fun hf => ?_) (fun hf => ?_)
    · refine lv_lload_n (pc := 14) hx hb dX4_countFrom_14 rfl (lv_at hl 2 rfl) ?_
      refine lv_iload_n (pc := 15) hx hb dX4_countFrom_15 rfl (lv_at hl 1 rfl) ?_
      refine lv_bipush (pc := 16) (v := (8 : Int32)) hx hb dX4_countFrom_16 (by decide) ?_
      refine lv_imul (pc := 18) hx hb dX4_countFrom_18 ?_
      refine lv_lushr (pc := 19) (v := ((Int64.toUInt64 p3 >>> (Int64.toUInt64 (Int32.toInt64 (p2 * (8 : Int32))) &&& Int64.toUInt64 63)).toInt64)) hx hb dX4_countFrom_19 rfl ?_
      refine lv_l2i (pc := 20) (v := (Int64.toInt32 ((Int64.toUInt64 p3 >>> (Int64.toUInt64 (Int32.toInt64 (p2 * (8 : Int32))) &&& Int64.toUInt64 63)).toInt64))) hx hb dX4_countFrom_20 rfl ?_
      refine lv_sipush (pc := 21) (v := (255 : Int32)) hx hb dX4_countFrom_21 (by decide) ?_
      refine lv_iand (pc := 24) hx hb dX4_countFrom_24 ?_
      refine lv_istore (pc := 25) (lv' := [(4, .int ((Int64.toInt32 ((Int64.toUInt64 p3 >>> (Int64.toUInt64 (Int32.toInt64 (p2 * (8 : Int32))) &&& Int64.toUInt64 63)).toInt64)) &&& (255 : Int32))), (0, .ref pw_A), (1, .int p2), (2, .long p3)]) hx hb dX4_countFrom_25 hl (by decide) rfl (fun ls hl => ?_)
      refine lv_iload_n (pc := 27) hx hb dX4_countFrom_27 rfl (lv_at hl 2 rfl) ?_
      refine lv_aload_n (pc := 28) hx hb dX4_countFrom_28 rfl (lv_at hl 1 rfl) ?_
      refine va_get (pc := 29) (D := D) (ci := 4) (v := .int pw_people) (C := RX4) (T := TX4) (N := 4) hx hb hts inG4 hown hK hP 0 rfl rfl 2 (by decide) (hts _ tw_181) (fun _ h9 => h9) rfl dX4_countFrom_29 ?_
      refine lv_iconst (pc := 32) (v := (1 : Int32)) hx hb dX4_countFrom_32 (by decide) ?_
      refine lv_isub (pc := 33) hx hb dX4_countFrom_33 ?_
      refine r_ic_ne (pc := 34) (tgt := 58) hx hb dX4_countFrom_34 (by decide) hf (fun hf => ?_) (fun hf => ?_)
      · refine lv_iconst (pc := 58) (v := (0 : Int32)) hx hb dX4_countFrom_58 (by decide) ?_
        refine lv_istore (pc := 59) (lv' := [(5, .int (0 : Int32)), (4, .int ((Int64.toInt32 ((Int64.toUInt64 p3 >>> (Int64.toUInt64 (Int32.toInt64 (p2 * (8 : Int32))) &&& Int64.toUInt64 63)).toInt64)) &&& (255 : Int32))), (0, .ref pw_A), (1, .int p2), (2, .long p3)]) hx hb dX4_countFrom_59 hl (by decide) rfl (fun ls hl => ?_)
        refine lv_iconst (pc := 61) (v := (0 : Int32)) hx hb dX4_countFrom_61 (by decide) ?_
        refine lv_istore (pc := 62) (lv' := [(6, .int (0 : Int32)), (5, .int (0 : Int32)), (4, .int ((Int64.toInt32 ((Int64.toUInt64 p3 >>> (Int64.toUInt64 (Int32.toInt64 (p2 * (8 : Int32))) &&& Int64.toUInt64 63)).toInt64)) &&& (255 : Int32))), (0, .ref pw_A), (1, .int p2), (2, .long p3)]) hx hb dX4_countFrom_62 hl (by decide) rfl (fun ls hl => ?_)
        obtain ⟨k5, hk5, hf⟩ := lc2_e hf
        have K5 : ∀ (z6 : Int32) (pw_first_7 : Nat → Int32) (H : Heap) (locs : List Loc) (ls : Array Slot), k5 z6 pw_first_7 = some (r, r_pw_first) → va_P D vwCl (w_X4 cI cJ cZ cS pw_A pw_leaves_A pw_first_A pw_leaves pw_first_7 pw_people pw_count) H → va_D A (w_X4 cI cJ cZ cS pw_A pw_leaves_A pw_first_A pw_leaves pw_first_7 pw_people pw_count) → va_S A s.heap H locs → lv_has ls 8 [(5, .int z6)] → W p l e (roR (fr0 + 2) (lo0 + 60)) s m args below meth c H locs 0 0 Q (F0 m 132 ls []) := by
          intro z6 pw_first_7 H locs ls hf hP hD hS hl
          rw [hk5] at hf
          refine lv_iload (pc := 132) hx hb dX4_countFrom_132 (lv_at hl 0 rfl) ?_
          cases hf
          exact hQ _ _ _ _ _ dX4_countFrom_134 rfl hP hD hS
        have L64 : ∀ (n : Nat), ∀ (y1 : Int32) (y2 : Int32) (pw_first_3 : Nat → Int32) (H : Heap) (locs : List Loc) (ls : Array Slot), f_X4_countFrom_L64 pw_leaves pw_people p2 p3 rc k5 n y1 y2 pw_first_3 = some (r, r_pw_first) → va_P D vwCl (w_X4 cI cJ cZ cS pw_A pw_leaves_A pw_first_A pw_leaves pw_first_3 pw_people pw_count) H → va_D A (w_X4 cI cJ cZ cS pw_A pw_leaves_A pw_first_A pw_leaves pw_first_3 pw_people pw_count) → va_S A s.heap H locs → lv_has ls 8 [(0, .ref pw_A), (1, .int p2), (2, .long p3), (4, .int ((Int64.toInt32 ((Int64.toUInt64 p3 >>> (Int64.toUInt64 (Int32.toInt64 (p2 * (8 : Int32))) &&& Int64.toUInt64 63)).toInt64)) &&& (255 : Int32))), (5, .int y1), (6, .int y2)] → W p l e (roR (fr0 + 2) (lo0 + 60)) s m args below meth c H locs 0 0 Q (F0 m 64 ls []) := by
          intro n
          induction n with
          | zero =>
            intro y1 y2 pw_first_3 H locs ls hf
            rw [f_X4_countFrom_L64] at hf
            cases hf
          | succ n ih =>
            intro y1 y2 pw_first_3 H locs ls hf hP hD hS hl
            rw [f_X4_countFrom_L64] at hf
            refine lv_iload (pc := 64) hx hb dX4_countFrom_64 (lv_at hl 5 rfl) ?_
            refine lv_bipush (pc := 66) (v := (8 : Int32)) hx hb dX4_countFrom_66 (by decide) ?_
            refine r_ic_ge (pc := 68) (tgt := 132) hx hb dX4_countFrom_68 (by decide) hf (fun hf => ?_) (fun hf => ?_)
            · exact K5 _ _ _ _ _ hf hP hD hS (lv_sub hl [4] rfl)
            · refine lv_iload (pc := 71) hx hb dX4_countFrom_71 (lv_at hl 3 rfl) ?_
              refine lv_iload (pc := 73) hx hb dX4_countFrom_73 (lv_at hl 5 rfl) ?_
              refine lv_ishr (pc := 75) hx hb dX4_countFrom_75 ?_
              refine lv_iconst (pc := 76) (v := (1 : Int32)) hx hb dX4_countFrom_76 (by decide) ?_
              refine lv_iand (pc := 77) hx hb dX4_countFrom_77 ?_
              obtain ⟨k8, hk8, hf⟩ := lc2_e hf
              have K8 : ∀ (x15 : Int32) (pw_first_16 : Nat → Int32) (H : Heap) (locs : List Loc) (ls : Array Slot), k8 x15 pw_first_16 = some (r, r_pw_first) → va_P D vwCl (w_X4 cI cJ cZ cS pw_A pw_leaves_A pw_first_A pw_leaves pw_first_16 pw_people pw_count) H → va_D A (w_X4 cI cJ cZ cS pw_A pw_leaves_A pw_first_A pw_leaves pw_first_16 pw_people pw_count) → va_S A s.heap H locs → lv_has ls 8 [(0, .ref pw_A), (1, .int p2), (2, .long p3), (4, .int ((Int64.toInt32 ((Int64.toUInt64 p3 >>> (Int64.toUInt64 (Int32.toInt64 (p2 * (8 : Int32))) &&& Int64.toUInt64 63)).toInt64)) &&& (255 : Int32))), (5, .int x15), (6, .int y2)] → W p l e (roR (fr0 + 2) (lo0 + 60)) s m args below meth c H locs 0 0 Q (F0 m 126 ls []) := by
                intro x15 pw_first_16 H locs ls hf hP hD hS hl
                rw [hk8] at hf
                refine lv_iinc (pc := 126) (v := (y2 + (1 : Int32))) (lv' := [(6, .int (y2 + (1 : Int32))), (0, .ref pw_A), (1, .int p2), (2, .long p3), (4, .int ((Int64.toInt32 ((Int64.toUInt64 p3 >>> (Int64.toUInt64 (Int32.toInt64 (p2 * (8 : Int32))) &&& Int64.toUInt64 63)).toInt64)) &&& (255 : Int32))), (5, .int x15)]) hx hb dX4_countFrom_126 hl (k := 5) rfl (by rfl) (by decide) rfl (fun ls hl => ?_)
                refine lv_goto (pc := 129) (tgt := 64) hx hb dX4_countFrom_129 (by decide) ?_
                exact ih _ _ _ _ _ _ hf hP hD hS (lv_sub hl [1, 2, 3, 4, 5, 0] rfl)
              refine r_if_ne (pc := 78) (tgt := 84) hx hb dX4_countFrom_78 (by decide) hf (fun hf => ?_) (fun hf => ?_)
              · refine lv_aload_n (pc := 84) hx hb dX4_countFrom_84 rfl (lv_at hl 0 rfl) ?_
                refine lv_iload_n (pc := 85) hx hb dX4_countFrom_85 rfl (lv_at hl 1 rfl) ?_
                refine lv_iconst (pc := 86) (v := (1 : Int32)) hx hb dX4_countFrom_86 (by decide) ?_
                refine lv_iadd (pc := 87) hx hb dX4_countFrom_87 ?_
                refine lv_lload_n (pc := 88) hx hb dX4_countFrom_88 rfl (lv_at hl 2 rfl) ?_
                refine lv_aload_n (pc := 89) hx hb dX4_countFrom_89 rfl (lv_at hl 0 rfl) ?_
                refine va_get (pc := 90) (D := D) (ci := 4) (v := .ref pw_leaves_A) (C := RX4) (T := TX4) (N := 4) hx hb hts inG4 hown hK hP 0 rfl rfl 0 (by decide) (hts _ tw_179) (fun _ h9 => h9) rfl dX4_countFrom_90 ?_
                refine lv_iload_n (pc := 93) hx hb dX4_countFrom_93 rfl (lv_at hl 1 rfl) ?_
                refine lv_bipush (pc := 94) (v := (8 : Int32)) hx hb dX4_countFrom_94 (by decide) ?_
                refine lv_imul (pc := 96) hx hb dX4_countFrom_96 ?_
                refine lv_iload (pc := 97) hx hb dX4_countFrom_97 (lv_at hl 5 rfl) ?_
                refine lv_iadd (pc := 99) hx hb dX4_countFrom_99 ?_
                refine r_lald (pc := 100) hx hb hK hP 1 1 rfl rfl hf dX4_countFrom_100 (fun v9 hf => ?_)
                refine lv_land (pc := 101) hx hb dX4_countFrom_101 ?_
                obtain ⟨⟨v10, pw_first_11⟩, hv102, hf⟩ := bd_e hf
                refine rw_Si (pc := 102) (As := [.ref pw_A, .int (p2 + (1 : Int32)), .long (p3 &&& v9)]) (rest := []) (wr := []) (wn := (w_X4 cI cJ cZ cS pw_A pw_leaves_A pw_first_A pw_leaves pw_first_11 pw_people pw_count)) E (hrc pw_A pw_leaves_A pw_first_A pw_leaves pw_first_3 pw_people pw_count (p2 + (1 : Int32)) (p3 &&& v9) H.size v10 pw_first_11 hv102) F_X4_countFrom tw_642 tw_643  hP hD hS hA [0, 1, 2] [] [0, 1, 2] rfl rfl (by decide) (by decide) (by decide) rfl (by decide) ⟨by simp only [roR]; omega, by simp only [roR]; omega⟩ rfl hl.1 (Nat.le_of_ble_eq_true rfl) ⟨Nat.zero_le _, Nat.zero_le _⟩ rfl dX4_countFrom_102 (fun H locs hP hD hS => ?_)
                refine lv_istore (pc := 105) (lv' := [(7, .int v10), (0, .ref pw_A), (1, .int p2), (2, .long p3), (4, .int ((Int64.toInt32 ((Int64.toUInt64 p3 >>> (Int64.toUInt64 (Int32.toInt64 (p2 * (8 : Int32))) &&& Int64.toUInt64 63)).toInt64)) &&& (255 : Int32))), (5, .int y1), (6, .int y2)]) hx hb dX4_countFrom_105 hl (by decide) rfl (fun ls hl => ?_)
                refine lv_iload (pc := 107) hx hb dX4_countFrom_107 (lv_at hl 0 rfl) ?_
                obtain ⟨k12, hk12, hf⟩ := lc1_e hf
                have K12 : ∀ (pw_first_14 : Nat → Int32) (H : Heap) (locs : List Loc) (ls : Array Slot), k12 pw_first_14 = some (r, r_pw_first) → va_P D vwCl (w_X4 cI cJ cZ cS pw_A pw_leaves_A pw_first_A pw_leaves pw_first_14 pw_people pw_count) H → va_D A (w_X4 cI cJ cZ cS pw_A pw_leaves_A pw_first_A pw_leaves pw_first_14 pw_people pw_count) → va_S A s.heap H locs → lv_has ls 8 [(0, .ref pw_A), (1, .int p2), (2, .long p3), (4, .int ((Int64.toInt32 ((Int64.toUInt64 p3 >>> (Int64.toUInt64 (Int32.toInt64 (p2 * (8 : Int32))) &&& Int64.toUInt64 63)).toInt64)) &&& (255 : Int32))), (5, .int y1), (6, .int y2), (7, .int v10)] → W p l e (roR (fr0 + 2) (lo0 + 60)) s m args below meth c H locs 0 0 Q (F0 m 119 ls []) := by
                  intro pw_first_14 H locs ls hf hP hD hS hl
                  rw [hk12] at hf
                  refine lv_iload (pc := 119) hx hb dX4_countFrom_119 (lv_at hl 4 rfl) ?_
                  refine lv_iload (pc := 121) hx hb dX4_countFrom_121 (lv_at hl 6 rfl) ?_
                  refine lv_iadd (pc := 123) hx hb dX4_countFrom_123 ?_
                  refine lv_istore (pc := 124) (lv' := [(5, .int (y1 + v10)), (0, .ref pw_A), (1, .int p2), (2, .long p3), (4, .int ((Int64.toInt32 ((Int64.toUInt64 p3 >>> (Int64.toUInt64 (Int32.toInt64 (p2 * (8 : Int32))) &&& Int64.toUInt64 63)).toInt64)) &&& (255 : Int32))), (6, .int y2), (7, .int v10)]) hx hb dX4_countFrom_124 hl (by decide) rfl (fun ls hl => ?_)
                  exact K8 _ _ _ _ _ hf hP hD hS (lv_sub hl [1, 2, 3, 4, 0, 5] rfl)
                refine r_if_le (pc := 109) (tgt := 119) hx hb dX4_countFrom_109 (by decide) hf (fun hf => ?_) (fun hf => ?_)
                · exact K12 _ _ _ _ hf hP hD hS (lv_sub hl [1, 2, 3, 4, 5, 6, 0] rfl)
                · refine lv_aload_n (pc := 112) hx hb dX4_countFrom_112 rfl (lv_at hl 1 rfl) ?_
                  refine lv_iload_n (pc := 113) hx hb dX4_countFrom_113 rfl (lv_at hl 2 rfl) ?_
                  refine lv_iload (pc := 114) hx hb dX4_countFrom_114 (lv_at hl 6 rfl) ?_
                  obtain ⟨pw_first_13, hv116, hf⟩ := bd_e hf
                  refine rw_Vv (pc := 116) (As := [.int p2, .int y2]) (rest := []) (wr := []) (wn := (w_X4 cI cJ cZ cS pw_A pw_leaves_A pw_first_A pw_leaves pw_first_13 pw_people pw_count)) E (c_X4_noteFirst l D cI cJ cZ cS pw_A pw_leaves_A pw_first_A pw_leaves pw_first_11 pw_people pw_count p2 y2 H.size pw_first_13 hv116) F_X4_noteFirst rfl rfl tw_646 tw_648 tp_20 hP hD hS hA [0, 1, 2] [] [0, 1, 2] rfl rfl (by decide) (by decide) (by decide) rfl (by decide) ⟨by simp only [roR]; omega, by simp only [roR]; omega⟩ rfl hl.1 (Nat.le_of_ble_eq_true rfl) ⟨Nat.zero_le _, Nat.zero_le _⟩ rfl dX4_countFrom_116 (fun H locs hP hD hS => ?_)
                  exact K12 _ _ _ _ hf hP hD hS (lv_sub hl [1, 2, 3, 4, 5, 6, 0] rfl)
              · refine lv_goto (pc := 81) (tgt := 126) hx hb dX4_countFrom_81 (by decide) ?_
                exact K8 _ _ _ _ _ hf hP hD hS hl
        exact L64 N _ _ _ _ _ _ hf hP hD hS (lv_sub hl [3, 4, 5, 2, 1, 0] rfl)
      · refine lv_iload (pc := 37) hx hb dX4_countFrom_37 (lv_at hl 0 rfl) ?_
        obtain ⟨k17, hk17, hf⟩ := lc1_e hf
        have K17 : ∀ (pw_first_20 : Nat → Int32) (H : Heap) (locs : List Loc) (ls : Array Slot), k17 pw_first_20 = some (r, r_pw_first) → va_P D vwCl (w_X4 cI cJ cZ cS pw_A pw_leaves_A pw_first_A pw_leaves pw_first_20 pw_people pw_count) H → va_D A (w_X4 cI cJ cZ cS pw_A pw_leaves_A pw_first_A pw_leaves pw_first_20 pw_people pw_count) → va_S A s.heap H locs → lv_has ls 8 [(4, .int ((Int64.toInt32 ((Int64.toUInt64 p3 >>> (Int64.toUInt64 (Int32.toInt64 (p2 * (8 : Int32))) &&& Int64.toUInt64 63)).toInt64)) &&& (255 : Int32)))] → W p l e (roR (fr0 + 2) (lo0 + 60)) s m args below meth c H locs 0 0 Q (F0 m 52 ls []) := by
          intro pw_first_20 H locs ls hf hP hD hS hl
          rw [hk17] at hf
          refine lv_iload (pc := 52) hx hb dX4_countFrom_52 (lv_at hl 0 rfl) ?_
          obtain ⟨v21, hv54, hf⟩ := bd_e hf
          refine ro_Si (pc := 54) (As := [.int ((Int64.toInt32 ((Int64.toUInt64 p3 >>> (Int64.toUInt64 (Int32.toInt64 (p2 * (8 : Int32))) &&& Int64.toUInt64 63)).toInt64)) &&& (255 : Int32))]) (rest := []) E (c_J6_bitCount_0f7a4 l D cI cJ cZ cS ((Int64.toInt32 ((Int64.toUInt64 p3 >>> (Int64.toUInt64 (Int32.toInt64 (p2 * (8 : Int32))) &&& Int64.toUInt64 63)).toInt64)) &&& (255 : Int32)) v21 hv54) F_J6_bitCount_0f7a4 tw_650 tw_338  va_P_nil ⟨by simp only [roR]; omega, by simp only [roR]; omega⟩ rfl hl.1 (Nat.le_of_ble_eq_true rfl) ⟨Nat.zero_le _, Nat.zero_le _⟩ rfl dX4_countFrom_54 ?_
          cases hf
          exact hQ _ _ _ _ _ dX4_countFrom_57 rfl hP hD hS
        refine r_if_eq (pc := 39) (tgt := 52) hx hb dX4_countFrom_39 (by decide) hf (fun hf => ?_) (fun hf => ?_)
        · exact K17 _ _ _ _ hf hP hD hS (lv_sub hl [0] rfl)
        · refine lv_aload_n (pc := 42) hx hb dX4_countFrom_42 rfl (lv_at hl 1 rfl) ?_
          refine lv_iload_n (pc := 43) hx hb dX4_countFrom_43 rfl (lv_at hl 2 rfl) ?_
          refine lv_iload (pc := 44) hx hb dX4_countFrom_44 (lv_at hl 0 rfl) ?_
          obtain ⟨v18, hv46, hf⟩ := bd_e hf
          refine ro_Si (pc := 46) (As := [.int ((Int64.toInt32 ((Int64.toUInt64 p3 >>> (Int64.toUInt64 (Int32.toInt64 (p2 * (8 : Int32))) &&& Int64.toUInt64 63)).toInt64)) &&& (255 : Int32))]) (rest := [.int p2, .ref pw_A]) E (c_J6_numberOfTrailingZeros_0f7a4 l D cI cJ cZ cS ((Int64.toInt32 ((Int64.toUInt64 p3 >>> (Int64.toUInt64 (Int32.toInt64 (p2 * (8 : Int32))) &&& Int64.toUInt64 63)).toInt64)) &&& (255 : Int32)) v18 hv46) F_J6_numberOfTrailingZeros_0f7a4 tw_645 tw_546  va_P_nil ⟨by simp only [roR]; omega, by simp only [roR]; omega⟩ rfl hl.1 (Nat.le_of_ble_eq_true rfl) ⟨Nat.zero_le _, Nat.zero_le _⟩ rfl dX4_countFrom_46 ?_
          obtain ⟨pw_first_19, hv49, hf⟩ := bd_e hf
          refine rw_Vv (pc := 49) (As := [.int p2, .int v18]) (rest := []) (wr := []) (wn := (w_X4 cI cJ cZ cS pw_A pw_leaves_A pw_first_A pw_leaves pw_first_19 pw_people pw_count)) E (c_X4_noteFirst l D cI cJ cZ cS pw_A pw_leaves_A pw_first_A pw_leaves pw_first pw_people pw_count p2 v18 H.size pw_first_19 hv49) F_X4_noteFirst rfl rfl tw_646 tw_648 tp_20 hP hD hS hA [0, 1, 2] [] [0, 1, 2] rfl rfl (by decide) (by decide) (by decide) rfl (by decide) ⟨by simp only [roR]; omega, by simp only [roR]; omega⟩ rfl hl.1 (Nat.le_of_ble_eq_true rfl) ⟨Nat.zero_le _, Nat.zero_le _⟩ rfl dX4_countFrom_49 (fun H locs hP hD hS => ?_)
          exact K17 _ _ _ _ hf hP hD hS (lv_sub hl [0] rfl)
    · refine lv_iconst (pc := 12) (v := (1 : Int32)) hx hb dX4_countFrom_12 (by decide) ?_
      cases hf
      exact hQ _ _ _ _ _ dX4_countFrom_13 rfl hP hD hS
/-- by the depth -/
theorem c_X4_countFrom (l : Launch) (D : va_G) (cI cJ cZ cS : ClassId) (N d : Nat) : ∀ (pw_A pw_leaves_A pw_first_A : Nat) (pw_leaves : Nat → Int64) (pw_first : Nat → Int32) (pw_people : Int32) (pw_count : Int32) (p2 : Int32) (p3 : Int64) (sz : Nat) (r : Int32) (r_pw_first : Nat → Int32), f_X4_countFrom N d pw_leaves pw_first pw_people p2 p3 = some (r, r_pw_first) → RwC l D cI cJ cZ cS yX4_countFrom cX4_countFrom 8 (some .int) (2 * d) (60 * d) (w_X4 cI cJ cZ cS pw_A pw_leaves_A pw_first_A pw_leaves pw_first pw_people pw_count) sz [.ref pw_A, .int p2, .long p3] (some (.int r)) (w_X4 cI cJ cZ cS pw_A pw_leaves_A pw_first_A pw_leaves r_pw_first pw_people pw_count) := by
  induction d with
  | zero =>
    intro pw_A pw_leaves_A pw_first_A pw_leaves pw_first pw_people pw_count p2 p3 sz r r_pw_first hf
    rw [f_X4_countFrom] at hf
    cases hf
  | succ d ih =>
    intro pw_A pw_leaves_A pw_first_A pw_leaves pw_first pw_people pw_count p2 p3 sz r r_pw_first hf
    rw [f_X4_countFrom] at hf
    exact o_X4_countFrom l D cI cJ cZ cS N (2 * d) (60 * d) _ ih pw_A pw_leaves_A pw_first_A pw_leaves pw_first pw_people pw_count p2 p3 sz r r_pw_first hf
theorem F_X4_solve : CalF yX4_solve cX4_solve 5 none 2 := ⟨tw_625, tw_9, by decide +kernel⟩
set_option maxRecDepth 100000 in
set_option maxHeartbeats 4000000 in
theorem c_X4_solve (l : Launch) (D : va_G) (cI cJ cZ cS : ClassId) (N : Nat) (pw_A pw_leaves_A pw_first_A st_A st_talls_A st_pairs_A : Nat) (pw_leaves : Nat → Int64) (pw_first : Nat → Int32) (pw_people : Int32) (pw_count : Int32) (st_rows : Int32) (st_columns : Int32) (st_rise : Int32) (st_talls : Nat → Int32) (st_pairs : Nat → Int32) (st_changed : Int32) (p2 : Int32) (sz : Nat) (r_pw_people : Int32) (r_pw_count : Int32) (r_pw_leaves : Nat → Int64) (r_pw_first : Nat → Int32) (r_st_changed : Int32) (hf : f_X4_solve N pw_leaves pw_first pw_people pw_count st_rows st_columns st_rise st_talls st_pairs st_changed p2 = some (r_pw_people, r_pw_count, r_pw_leaves, r_pw_first, r_st_changed)) : RwC l D cI cJ cZ cS yX4_solve cX4_solve 5 none 19 567 (w_X4X7 cI cJ cZ cS pw_A pw_leaves_A pw_first_A st_A st_talls_A st_pairs_A pw_leaves pw_first pw_people pw_count st_rows st_columns st_rise st_talls st_pairs st_changed) sz [.ref pw_A, .ref st_A, .int p2] none (w_X4X7 cI cJ cZ cS pw_A pw_leaves_A pw_first_A st_A st_talls_A st_pairs_A r_pw_leaves r_pw_first r_pw_people r_pw_count st_rows st_columns st_rise st_talls st_pairs r_st_changed) := by
  refine rw_in_v (own := RX4) (by decide +kernel) rfl (Nat.le_of_ble_eq_true rfl) ?_
  intro p e s m args below meth c ls Q A E hA hQ hP hD hS hl
  obtain ⟨hx, hb, hml, hown, hts, hK, hN, hAO⟩ := id E
  have hl : lv_has ls 5 [(0, .ref pw_A), (1, .ref st_A), (2, .int p2)] := hl
  unfold f_X4_solve at hf
  obtain ⟨H, hH⟩ : ∃ H, H = s.heap := ⟨_, rfl⟩
  obtain ⟨locs, hlocs⟩ : ∃ L : List Loc, L = [] := ⟨_, rfl⟩
  rw [show W p l e (roR 19 567) s m args below meth c s.heap [] 0 0 Q (F0 m 0 ls []) = W p l e (roR 19 567) s m args below meth c H locs 0 0 Q (F0 m 0 ls []) by rw [hH, hlocs]]
  replace hS : va_S A s.heap H locs := by rw [hH, hlocs]; exact hS
  replace hP : va_P D vwCl (w_X4X7 cI cJ cZ cS pw_A pw_leaves_A pw_first_A st_A st_talls_A st_pairs_A pw_leaves pw_first pw_people pw_count st_rows st_columns st_rise st_talls st_pairs st_changed) H := by rw [hH]; exact hP
  clear hH hlocs
  refine lv_aload_n (pc := 0) hx hb dX4_solve_0 rfl (lv_at hl 1 rfl) ?_
  refine va_getN (pc := 1) (D := D) (ci := 7) (v := .int st_changed) (C := RX7) (T := TX7) (N := 6) hx hb hts inG7 hown hK hP 3 rfl rfl 5 (by decide) (va_Nw.use rfl (hN _ tn_12)) (fun _ h9 => h9) rfl dX4_solve_1 ?_
  refine r_if_ne (pc := 4) (tgt := 8) hx hb dX4_solve_4 (by decide) hf (fun hf => ?_) (fun hf => ?_)
  · refine lv_aload_n (pc := 8) hx hb dX4_solve_8 rfl (lv_at hl 1 rfl) ?_
    refine lv_iconst (pc := 9) (v := (0 : Int32)) hx hb dX4_solve_9 (by decide) ?_
    refine va_putN (pc := 10) (D := D) (ci := 7) (v := .int (0 : Int32)) (ty := .boolean) (C := RX7) (T := TX7) (N := 6) hx hb hts inG7 tyX7 tyX7_ok nmX7 hown hK hP hD hS 3 rfl rfl 5 (by decide) (va_Nw.use rfl (hN _ tn_12)) (fun _ h9 => h9) rfl (by decide +kernel) rfl rfl (Nat.le_of_ble_eq_true rfl) dX4_solve_10 (fun H locs hP hD hS => ?_)
    have hP : va_P D vwCl (w_X4X7 cI cJ cZ cS pw_A pw_leaves_A pw_first_A st_A st_talls_A st_pairs_A pw_leaves pw_first pw_people pw_count st_rows st_columns st_rise st_talls st_pairs (0 : Int32)) H := hP
    have hD : va_D A (w_X4X7 cI cJ cZ cS pw_A pw_leaves_A pw_first_A st_A st_talls_A st_pairs_A pw_leaves pw_first pw_people pw_count st_rows st_columns st_rise st_talls st_pairs (0 : Int32)) := hD
    refine lv_aload_n (pc := 13) hx hb dX4_solve_13 rfl (lv_at hl 0 rfl) ?_
    refine lv_iload_n (pc := 14) hx hb dX4_solve_14 rfl (lv_at hl 2 rfl) ?_
    refine va_put (pc := 15) (D := D) (ci := 4) (v := .int p2) (ty := .int) (C := RX4) (T := TX4) (N := 4) hx hb hts inG4 tyX4 tyX4_ok nmX4 hown hK hP hD hS 0 rfl rfl 2 (by decide) (hts _ tw_181) (fun _ h9 => h9) rfl (by decide +kernel) rfl rfl (Nat.le_of_ble_eq_true rfl) dX4_solve_15 (fun H locs hP hD hS => ?_)
    have hP : va_P D vwCl (w_X4X7 cI cJ cZ cS pw_A pw_leaves_A pw_first_A st_A st_talls_A st_pairs_A pw_leaves pw_first p2 pw_count st_rows st_columns st_rise st_talls st_pairs (0 : Int32)) H := hP
    have hD : va_D A (w_X4X7 cI cJ cZ cS pw_A pw_leaves_A pw_first_A st_A st_talls_A st_pairs_A pw_leaves pw_first p2 pw_count st_rows st_columns st_rise st_talls st_pairs (0 : Int32)) := hD
    refine lv_iconst (pc := 18) (v := (0 : Int32)) hx hb dX4_solve_18 (by decide) ?_
    refine lv_istore_n (pc := 19) (lv' := [(3, .int (0 : Int32)), (0, .ref pw_A), (1, .ref st_A), (2, .int p2)]) hx hb dX4_solve_19 rfl hl (by decide) rfl (fun ls hl => ?_)
    obtain ⟨k4, hk4, hf⟩ := lc1_e hf
    have K4 : ∀ (pw_first_5 : Nat → Int32) (H : Heap) (locs : List Loc) (ls : Array Slot), k4 pw_first_5 = some (r_pw_people, r_pw_count, r_pw_leaves, r_pw_first, r_st_changed) → va_P D vwCl (w_X4X7 cI cJ cZ cS pw_A pw_leaves_A pw_first_A st_A st_talls_A st_pairs_A pw_leaves pw_first_5 p2 pw_count st_rows st_columns st_rise st_talls st_pairs (0 : Int32)) H → va_D A (w_X4X7 cI cJ cZ cS pw_A pw_leaves_A pw_first_A st_A st_talls_A st_pairs_A pw_leaves pw_first_5 p2 pw_count st_rows st_columns st_rise st_talls st_pairs (0 : Int32)) → va_S A s.heap H locs → lv_has ls 5 [(0, .ref pw_A), (1, .ref st_A)] → W p l e (roR 19 567) s m args below meth c H locs 0 0 Q (F0 m 40 ls []) := by
      intro pw_first_5 H locs ls hf hP hD hS hl
      rw [hk4] at hf
      refine lv_iconst (pc := 40) (v := (0 : Int32)) hx hb dX4_solve_40 (by decide) ?_
      refine lv_istore_n (pc := 41) (lv' := [(3, .int (0 : Int32)), (0, .ref pw_A), (1, .ref st_A)]) hx hb dX4_solve_41 rfl hl (by decide) rfl (fun ls hl => ?_)
      obtain ⟨k10, hk10, hf⟩ := lc1_e hf
      have K10 : ∀ (pw_leaves_11 : Nat → Int64) (H : Heap) (locs : List Loc) (ls : Array Slot), k10 pw_leaves_11 = some (r_pw_people, r_pw_count, r_pw_leaves, r_pw_first, r_st_changed) → va_P D vwCl (w_X4X7 cI cJ cZ cS pw_A pw_leaves_A pw_first_A st_A st_talls_A st_pairs_A pw_leaves_11 pw_first_5 p2 pw_count st_rows st_columns st_rise st_talls st_pairs (0 : Int32)) H → va_D A (w_X4X7 cI cJ cZ cS pw_A pw_leaves_A pw_first_A st_A st_talls_A st_pairs_A pw_leaves_11 pw_first_5 p2 pw_count st_rows st_columns st_rise st_talls st_pairs (0 : Int32)) → va_S A s.heap H locs → lv_has ls 5 [(0, .ref pw_A), (1, .ref st_A)] → W p l e (roR 19 567) s m args below meth c H locs 0 0 Q (F0 m 94 ls []) := by
        intro pw_leaves_11 H locs ls hf hP hD hS hl
        rw [hk10] at hf
        refine lv_aload_n (pc := 94) hx hb dX4_solve_94 rfl (lv_at hl 0 rfl) ?_
        refine lv_aload_n (pc := 95) hx hb dX4_solve_95 rfl (lv_at hl 0 rfl) ?_
        refine lv_iconst (pc := 96) (v := (0 : Int32)) hx hb dX4_solve_96 (by decide) ?_
        refine lv_aload_n (pc := 97) hx hb dX4_solve_97 rfl (lv_at hl 0 rfl) ?_
        refine lv_aload_n (pc := 98) hx hb dX4_solve_98 rfl (lv_at hl 1 rfl) ?_
        obtain ⟨v20, hv99, hf⟩ := bd_e hf
        refine ro_Vl (pc := 99) (As := [.ref st_A]) (rest := [.int (0 : Int32), .ref pw_A, .ref pw_A]) E (c_X4_allPlaces l D cI cJ cZ cS N pw_A pw_leaves_A pw_first_A st_A st_talls_A st_pairs_A pw_leaves_11 pw_first_5 p2 pw_count st_rows st_columns st_rise st_talls st_pairs (0 : Int32) v20 hv99) F_X4_allPlaces rfl rfl tw_638 tw_640 tp_19 hP ⟨by decide, by decide⟩ rfl hl.1 (Nat.le_of_ble_eq_true rfl) ⟨by decide, by decide⟩ rfl dX4_solve_99 ?_
        obtain ⟨⟨v21, pw_first_22⟩, hv102, hf⟩ := bd_e hf
        refine rw_Si (pc := 102) (As := [.ref pw_A, .int (0 : Int32), .long v20]) (rest := [.ref pw_A]) (wr := [(st_A, .inr (7, [.int st_rows, .int st_columns, .int st_rise, .ref st_talls_A, .ref st_pairs_A, .int (0 : Int32)])), (st_talls_A, .inl (cI, 8, .inl st_talls)), (st_pairs_A, .inl (cI, 64, .inl st_pairs))]) (wn := (w_X4X7 cI cJ cZ cS pw_A pw_leaves_A pw_first_A st_A st_talls_A st_pairs_A pw_leaves_11 pw_first_22 p2 pw_count st_rows st_columns st_rise st_talls st_pairs (0 : Int32))) E (c_X4_countFrom l D cI cJ cZ cS N 9 pw_A pw_leaves_A pw_first_A pw_leaves_11 pw_first_5 p2 pw_count (0 : Int32) v20 H.size v21 pw_first_22 hv102) F_X4_countFrom tw_642 tw_643  hP hD hS hA [0, 1, 2] [3, 4, 5] [3, 4, 5, 0, 1, 2] rfl rfl (by decide) (by decide) (by decide) rfl (by decide) ⟨by decide, by decide⟩ rfl hl.1 (Nat.le_of_ble_eq_true rfl) ⟨by decide, by decide⟩ rfl dX4_solve_102 (fun H locs hP hD hS => ?_)
        refine va_put (pc := 105) (D := D) (ci := 4) (v := .int v21) (ty := .int) (C := RX4) (T := TX4) (N := 4) hx hb hts inG4 tyX4 tyX4_ok nmX4 hown hK hP hD hS 0 rfl rfl 3 (by decide) (hts _ tw_182) (fun _ h9 => h9) rfl (by decide +kernel) rfl rfl (Nat.le_of_ble_eq_true rfl) dX4_solve_105 (fun H locs hP hD hS => ?_)
        have hP : va_P D vwCl (w_X4X7 cI cJ cZ cS pw_A pw_leaves_A pw_first_A st_A st_talls_A st_pairs_A pw_leaves_11 pw_first_22 p2 v21 st_rows st_columns st_rise st_talls st_pairs (0 : Int32)) H := hP
        have hD : va_D A (w_X4X7 cI cJ cZ cS pw_A pw_leaves_A pw_first_A st_A st_talls_A st_pairs_A pw_leaves_11 pw_first_22 p2 v21 st_rows st_columns st_rise st_talls st_pairs (0 : Int32)) := hD
        cases hf
        exact hQ _ _ _ _ dX4_solve_108 hP hD hS
      have L42 : ∀ (n : Nat), ∀ (y7 : Int32) (pw_leaves_8 : Nat → Int64) (H : Heap) (locs : List Loc) (ls : Array Slot), f_X4_solve_L42 st_rows st_columns st_rise st_talls st_pairs p2 N k10 n y7 pw_leaves_8 = some (r_pw_people, r_pw_count, r_pw_leaves, r_pw_first, r_st_changed) → va_P D vwCl (w_X4X7 cI cJ cZ cS pw_A pw_leaves_A pw_first_A st_A st_talls_A st_pairs_A pw_leaves_8 pw_first_5 p2 pw_count st_rows st_columns st_rise st_talls st_pairs (0 : Int32)) H → va_D A (w_X4X7 cI cJ cZ cS pw_A pw_leaves_A pw_first_A st_A st_talls_A st_pairs_A pw_leaves_8 pw_first_5 p2 pw_count st_rows st_columns st_rise st_talls st_pairs (0 : Int32)) → va_S A s.heap H locs → lv_has ls 5 [(0, .ref pw_A), (1, .ref st_A), (3, .int y7)] → W p l e (roR 19 567) s m args below meth c H locs 0 0 Q (F0 m 42 ls []) := by
        intro n
        induction n with
        | zero =>
          intro y7 pw_leaves_8 H locs ls hf
          rw [f_X4_solve_L42] at hf
          cases hf
        | succ n ih =>
          intro y7 pw_leaves_8 H locs ls hf hP hD hS hl
          rw [f_X4_solve_L42] at hf
          refine lv_iload_n (pc := 42) hx hb dX4_solve_42 rfl (lv_at hl 2 rfl) ?_
          refine lv_aload_n (pc := 43) hx hb dX4_solve_43 rfl (lv_at hl 0 rfl) ?_
          refine va_get (pc := 44) (D := D) (ci := 4) (v := .int p2) (C := RX4) (T := TX4) (N := 4) hx hb hts inG4 hown hK hP 0 rfl rfl 2 (by decide) (hts _ tw_181) (fun _ h9 => h9) rfl dX4_solve_44 ?_
          refine r_ic_ge (pc := 47) (tgt := 94) hx hb dX4_solve_47 (by decide) hf (fun hf => ?_) (fun hf => ?_)
          · exact K10 _ _ _ _ hf hP hD hS (lv_sub hl [0, 1] rfl)
          · refine lv_iconst (pc := 50) (v := (0 : Int32)) hx hb dX4_solve_50 (by decide) ?_
            refine lv_istore (pc := 51) (lv' := [(4, .int (0 : Int32)), (0, .ref pw_A), (1, .ref st_A), (3, .int y7)]) hx hb dX4_solve_51 hl (by decide) rfl (fun ls hl => ?_)
            obtain ⟨k15, hk15, hf⟩ := lc1_e hf
            have K15 : ∀ (pw_leaves_16 : Nat → Int64) (H : Heap) (locs : List Loc) (ls : Array Slot), k15 pw_leaves_16 = some (r_pw_people, r_pw_count, r_pw_leaves, r_pw_first, r_st_changed) → va_P D vwCl (w_X4X7 cI cJ cZ cS pw_A pw_leaves_A pw_first_A st_A st_talls_A st_pairs_A pw_leaves_16 pw_first_5 p2 pw_count st_rows st_columns st_rise st_talls st_pairs (0 : Int32)) H → va_D A (w_X4X7 cI cJ cZ cS pw_A pw_leaves_A pw_first_A st_A st_talls_A st_pairs_A pw_leaves_16 pw_first_5 p2 pw_count st_rows st_columns st_rise st_talls st_pairs (0 : Int32)) → va_S A s.heap H locs → lv_has ls 5 [(0, .ref pw_A), (1, .ref st_A), (3, .int y7)] → W p l e (roR 19 567) s m args below meth c H locs 0 0 Q (F0 m 88 ls []) := by
              intro pw_leaves_16 H locs ls hf hP hD hS hl
              rw [hk15] at hf
              refine lv_iinc (pc := 88) (v := (y7 + (1 : Int32))) (lv' := [(3, .int (y7 + (1 : Int32))), (0, .ref pw_A), (1, .ref st_A)]) hx hb dX4_solve_88 hl (k := 2) rfl (by rfl) (by decide) rfl (fun ls hl => ?_)
              refine lv_goto (pc := 91) (tgt := 42) hx hb dX4_solve_91 (by decide) ?_
              exact ih _ _ _ _ _ hf hP hD hS (lv_sub hl [1, 2, 0] rfl)
            have L53 : ∀ (n : Nat), ∀ (y12 : Int32) (pw_leaves_13 : Nat → Int64) (H : Heap) (locs : List Loc) (ls : Array Slot), f_X4_solve_L53 st_rows st_columns st_rise st_talls st_pairs p2 y7 N k15 n y12 pw_leaves_13 = some (r_pw_people, r_pw_count, r_pw_leaves, r_pw_first, r_st_changed) → va_P D vwCl (w_X4X7 cI cJ cZ cS pw_A pw_leaves_A pw_first_A st_A st_talls_A st_pairs_A pw_leaves_13 pw_first_5 p2 pw_count st_rows st_columns st_rise st_talls st_pairs (0 : Int32)) H → va_D A (w_X4X7 cI cJ cZ cS pw_A pw_leaves_A pw_first_A st_A st_talls_A st_pairs_A pw_leaves_13 pw_first_5 p2 pw_count st_rows st_columns st_rise st_talls st_pairs (0 : Int32)) → va_S A s.heap H locs → lv_has ls 5 [(0, .ref pw_A), (1, .ref st_A), (3, .int y7), (4, .int y12)] → W p l e (roR 19 567) s m args below meth c H locs 0 0 Q (F0 m 53 ls []) := by
              intro n
              induction n with
              | zero =>
                intro y12 pw_leaves_13 H locs ls hf
                rw [f_X4_solve_L53] at hf
                cases hf
              | succ n ih =>
                intro y12 pw_leaves_13 H locs ls hf hP hD hS hl
                rw [f_X4_solve_L53] at hf
                refine lv_iload (pc := 53) hx hb dX4_solve_53 (lv_at hl 3 rfl) ?_
                refine lv_aload_n (pc := 55) hx hb dX4_solve_55 rfl (lv_at hl 1 rfl) ?_
                obtain ⟨v17, hv56, hf⟩ := bd_e hf
                refine ro_Vi (pc := 56) (As := []) (rest := [.int y12]) E (c_X7_places l D cI cJ cZ cS st_A st_talls_A st_pairs_A st_rows st_columns st_rise st_talls st_pairs (0 : Int32) v17 hv56) F_X7_places rfl rfl tw_626 tw_287 tw_288 (hP.subm [3, 4, 5] rfl) ⟨by decide, by decide⟩ rfl hl.1 (Nat.le_of_ble_eq_true rfl) ⟨by decide, by decide⟩ rfl dX4_solve_56 ?_
                refine r_ic_ge (pc := 59) (tgt := 88) hx hb dX4_solve_59 (by decide) hf (fun hf => ?_) (fun hf => ?_)
                · exact K15 _ _ _ _ hf hP hD hS (lv_sub hl [0, 1, 2] rfl)
                · refine lv_aload_n (pc := 62) hx hb dX4_solve_62 rfl (lv_at hl 0 rfl) ?_
                  refine va_get (pc := 63) (D := D) (ci := 4) (v := .ref pw_leaves_A) (C := RX4) (T := TX4) (N := 4) hx hb hts inG4 hown hK hP 0 rfl rfl 0 (by decide) (hts _ tw_179) (fun _ h9 => h9) rfl dX4_solve_63 ?_
                  refine lv_iload_n (pc := 66) hx hb dX4_solve_66 rfl (lv_at hl 2 rfl) ?_
                  refine lv_bipush (pc := 67) (v := (8 : Int32)) hx hb dX4_solve_67 (by decide) ?_
                  refine lv_imul (pc := 69) hx hb dX4_solve_69 ?_
                  refine lv_iload (pc := 70) hx hb dX4_solve_70 (lv_at hl 3 rfl) ?_
                  refine lv_iadd (pc := 72) hx hb dX4_solve_72 ?_
                  refine lv_aload_n (pc := 73) hx hb dX4_solve_73 rfl (lv_at hl 0 rfl) ?_
                  refine lv_aload_n (pc := 74) hx hb dX4_solve_74 rfl (lv_at hl 1 rfl) ?_
                  refine lv_iload_n (pc := 75) hx hb dX4_solve_75 rfl (lv_at hl 2 rfl) ?_
                  refine lv_iload (pc := 76) hx hb dX4_solve_76 (lv_at hl 3 rfl) ?_
                  obtain ⟨v18, hv78, hf⟩ := bd_e hf
                  refine ro_Vl (pc := 78) (As := [.ref st_A, .int y7, .int y12]) (rest := [.int ((y7 * (8 : Int32)) + y12), .ref pw_leaves_A]) E (c_X4_leftBehind l D cI cJ cZ cS N pw_A pw_leaves_A pw_first_A st_A st_talls_A st_pairs_A pw_leaves_13 pw_first_5 p2 pw_count st_rows st_columns st_rise st_talls st_pairs (0 : Int32) y7 y12 v18 hv78) F_X4_leftBehind rfl rfl tw_627 tw_629 tp_18 hP ⟨by decide, by decide⟩ rfl hl.1 (Nat.le_of_ble_eq_true rfl) ⟨by decide, by decide⟩ rfl dX4_solve_78 ?_
                  refine r_last (pc := 81) hx hb hK hP hD hS 1 1 rfl rfl hf dX4_solve_81 (fun pw_leaves_19 H locs hf hP hD hS => ?_)
                  have hP : va_P D vwCl (w_X4X7 cI cJ cZ cS pw_A pw_leaves_A pw_first_A st_A st_talls_A st_pairs_A pw_leaves_19 pw_first_5 p2 pw_count st_rows st_columns st_rise st_talls st_pairs (0 : Int32)) H := hP
                  have hD : va_D A (w_X4X7 cI cJ cZ cS pw_A pw_leaves_A pw_first_A st_A st_talls_A st_pairs_A pw_leaves_19 pw_first_5 p2 pw_count st_rows st_columns st_rise st_talls st_pairs (0 : Int32)) := hD
                  refine lv_iinc (pc := 82) (v := (y12 + (1 : Int32))) (lv' := [(4, .int (y12 + (1 : Int32))), (0, .ref pw_A), (1, .ref st_A), (3, .int y7)]) hx hb dX4_solve_82 hl (k := 3) rfl (by rfl) (by decide) rfl (fun ls hl => ?_)
                  refine lv_goto (pc := 85) (tgt := 53) hx hb dX4_solve_85 (by decide) ?_
                  exact ih _ _ _ _ _ hf hP hD hS (lv_sub hl [1, 2, 3, 0] rfl)
            exact L53 N _ _ _ _ _ hf hP hD hS (lv_sub hl [1, 2, 3, 0] rfl)
      exact L42 N _ _ _ _ _ hf hP hD hS (lv_sub hl [1, 2, 0] rfl)
    have L20 : ∀ (n : Nat), ∀ (y1 : Int32) (pw_first_2 : Nat → Int32) (H : Heap) (locs : List Loc) (ls : Array Slot), f_X4_solve_L20 k4 n y1 pw_first_2 = some (r_pw_people, r_pw_count, r_pw_leaves, r_pw_first, r_st_changed) → va_P D vwCl (w_X4X7 cI cJ cZ cS pw_A pw_leaves_A pw_first_A st_A st_talls_A st_pairs_A pw_leaves pw_first_2 p2 pw_count st_rows st_columns st_rise st_talls st_pairs (0 : Int32)) H → va_D A (w_X4X7 cI cJ cZ cS pw_A pw_leaves_A pw_first_A st_A st_talls_A st_pairs_A pw_leaves pw_first_2 p2 pw_count st_rows st_columns st_rise st_talls st_pairs (0 : Int32)) → va_S A s.heap H locs → lv_has ls 5 [(0, .ref pw_A), (1, .ref st_A), (3, .int y1)] → W p l e (roR 19 567) s m args below meth c H locs 0 0 Q (F0 m 20 ls []) := by
      intro n
      induction n with
      | zero =>
        intro y1 pw_first_2 H locs ls hf
        rw [f_X4_solve_L20] at hf
        cases hf
      | succ n ih =>
        intro y1 pw_first_2 H locs ls hf hP hD hS hl
        rw [f_X4_solve_L20] at hf
        refine lv_iload_n (pc := 20) hx hb dX4_solve_20 rfl (lv_at hl 2 rfl) ?_
        refine lv_bipush (pc := 21) (v := (8 : Int32)) hx hb dX4_solve_21 (by decide) ?_
        refine r_ic_ge (pc := 23) (tgt := 40) hx hb dX4_solve_23 (by decide) hf (fun hf => ?_) (fun hf => ?_)
        · exact K4 _ _ _ _ hf hP hD hS (lv_sub hl [0, 1] rfl)
        · refine lv_aload_n (pc := 26) hx hb dX4_solve_26 rfl (lv_at hl 0 rfl) ?_
          refine va_get (pc := 27) (D := D) (ci := 4) (v := .ref pw_first_A) (C := RX4) (T := TX4) (N := 4) hx hb hts inG4 hown hK hP 0 rfl rfl 1 (by decide) (hts _ tw_180) (fun _ h9 => h9) rfl dX4_solve_27 ?_
          refine lv_iload_n (pc := 30) hx hb dX4_solve_30 rfl (lv_at hl 2 rfl) ?_
          refine lv_bipush (pc := 31) (v := (-6 : Int32)) hx hb dX4_solve_31 (by decide) ?_
          refine r_iast (pc := 33) hx hb hK hP hD hS 2 0 rfl rfl hf dX4_solve_33 (fun pw_first_6 H locs hf hP hD hS => ?_)
          have hP : va_P D vwCl (w_X4X7 cI cJ cZ cS pw_A pw_leaves_A pw_first_A st_A st_talls_A st_pairs_A pw_leaves pw_first_6 p2 pw_count st_rows st_columns st_rise st_talls st_pairs (0 : Int32)) H := hP
          have hD : va_D A (w_X4X7 cI cJ cZ cS pw_A pw_leaves_A pw_first_A st_A st_talls_A st_pairs_A pw_leaves pw_first_6 p2 pw_count st_rows st_columns st_rise st_talls st_pairs (0 : Int32)) := hD
          refine lv_iinc (pc := 34) (v := (y1 + (1 : Int32))) (lv' := [(3, .int (y1 + (1 : Int32))), (0, .ref pw_A), (1, .ref st_A)]) hx hb dX4_solve_34 hl (k := 2) rfl (by rfl) (by decide) rfl (fun ls hl => ?_)
          refine lv_goto (pc := 37) (tgt := 20) hx hb dX4_solve_37 (by decide) ?_
          exact ih _ _ _ _ _ hf hP hD hS (lv_sub hl [1, 2, 0] rfl)
    exact L20 N _ _ _ _ _ hf hP hD hS (lv_sub hl [1, 2, 0] rfl)
  · cases hf
    exact hQ _ _ _ _ dX4_solve_7 hP hD hS
