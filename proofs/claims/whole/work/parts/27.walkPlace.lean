theorem F_X4_bitOf : CalF yX4_bitOf cX4_bitOf 2 (some .long) 2 := ⟨tw_637, tw_9, by decide +kernel⟩
set_option maxRecDepth 100000 in
set_option maxHeartbeats 4000000 in
theorem c_X4_bitOf (l : Launch) (D : va_G) (cI cJ cZ cS : ClassId) (p1 : Int32) (p2 : Int32) (r : Int64) (hf : f_X4_bitOf p1 p2 = some r) : RoC l D cI cJ cZ cS yX4_bitOf cX4_bitOf 2 (some .long) 0 0 [] [.int p1, .int p2] (some (.long r)) := by
  refine ro_in_l (own := RX4) (by decide +kernel) rfl (Nat.le_of_ble_eq_true rfl) ?_
  intro p e s m args below meth c ls Q E hQ hP hl
  obtain ⟨hx, hb, hml, hown, hts, hK, hN, hAO⟩ := id E
  have hl : lv_has ls 2 [(0, .int p1), (1, .int p2)] := hl
  unfold f_X4_bitOf at hf
  refine lv_lconst (pc := 0) (v := (1 : Int64)) hx hb dX4_bitOf_0 (by decide) ?_
  refine lv_iload_n (pc := 1) hx hb dX4_bitOf_1 rfl (lv_at hl 0 rfl) ?_
  refine lv_bipush (pc := 2) (v := (8 : Int32)) hx hb dX4_bitOf_2 (by decide) ?_
  refine lv_imul (pc := 4) hx hb dX4_bitOf_4 ?_
  refine lv_iload_n (pc := 5) hx hb dX4_bitOf_5 rfl (lv_at hl 1 rfl) ?_
  refine lv_iadd (pc := 6) hx hb dX4_bitOf_6 ?_
  refine lv_lshl (pc := 7) (v := ((1 : Int64) <<< (Int32.toInt64 ((p1 * (8 : Int32)) + p2) &&& 63))) hx hb dX4_bitOf_7 rfl ?_
  exact hQ _ _ _ dX4_bitOf_8 hf
theorem F_X4_firstOf : CalF yX4_firstOf cX4_firstOf 2 (some .int) 1 := ⟨tw_654, tw_9, by decide +kernel⟩
set_option maxRecDepth 100000 in
set_option maxHeartbeats 4000000 in
theorem c_X4_firstOf (l : Launch) (D : va_G) (cI cJ cZ cS : ClassId) (pw_A pw_leaves_A pw_first_A : Nat) (pw_leaves : Nat → Int64) (pw_first : Nat → Int32) (pw_people : Int32) (pw_count : Int32) (p1 : Int32) (r : Int32) (hf : f_X4_firstOf pw_first p1 = some r) : RoC l D cI cJ cZ cS yX4_firstOf cX4_firstOf 2 (some .int) 0 0 (w_X4 cI cJ cZ cS pw_A pw_leaves_A pw_first_A pw_leaves pw_first pw_people pw_count) [.ref pw_A, .int p1] (some (.int r)) := by
  refine ro_in_i (own := RX4) (by decide +kernel) rfl (Nat.le_of_ble_eq_true rfl) ?_
  intro p e s m args below meth c ls Q E hQ hP hl
  obtain ⟨hx, hb, hml, hown, hts, hK, hN, hAO⟩ := id E
  have hl : lv_has ls 2 [(0, .ref pw_A), (1, .int p1)] := hl
  unfold f_X4_firstOf at hf
  refine lv_aload_n (pc := 0) hx hb dX4_firstOf_0 rfl (lv_at hl 0 rfl) ?_
  refine va_get (pc := 1) (D := D) (ci := 4) (v := .ref pw_first_A) (C := RX4) (T := TX4) (N := 4) hx hb hts inG4 hown hK hP 0 rfl rfl 1 (by decide) (hts _ tw_180) (fun _ h9 => h9) rfl dX4_firstOf_1 ?_
  refine lv_iload_n (pc := 4) hx hb dX4_firstOf_4 rfl (lv_at hl 1 rfl) ?_
  refine r_iald (pc := 5) hx hb hK hP 2 0 rfl rfl hf dX4_firstOf_5 (fun v1 hf => ?_)
  exact hQ _ _ _ dX4_firstOf_6 hf
theorem F_X4_noteFirst : CalF yX4_noteFirst cX4_noteFirst 3 none 2 := ⟨tw_649, tw_9, by decide +kernel⟩
set_option maxRecDepth 100000 in
set_option maxHeartbeats 4000000 in
theorem c_X4_noteFirst (l : Launch) (D : va_G) (cI cJ cZ cS : ClassId) (pw_A pw_leaves_A pw_first_A : Nat) (pw_leaves : Nat → Int64) (pw_first : Nat → Int32) (pw_people : Int32) (pw_count : Int32) (p1 : Int32) (p2 : Int32) (sz : Nat) (r_pw_first : Nat → Int32) (hf : f_X4_noteFirst pw_first p1 p2 = some r_pw_first) : RwC l D cI cJ cZ cS yX4_noteFirst cX4_noteFirst 3 none 0 0 (w_X4 cI cJ cZ cS pw_A pw_leaves_A pw_first_A pw_leaves pw_first pw_people pw_count) sz [.ref pw_A, .int p1, .int p2] none (w_X4 cI cJ cZ cS pw_A pw_leaves_A pw_first_A pw_leaves r_pw_first pw_people pw_count) := by
  refine rw_in_v (own := RX4) (by decide +kernel) rfl (Nat.le_of_ble_eq_true rfl) ?_
  intro p e s m args below meth c ls Q A E hA hQ hP hD hS hl
  obtain ⟨hx, hb, hml, hown, hts, hK, hN, hAO⟩ := id E
  have hl : lv_has ls 3 [(0, .ref pw_A), (1, .int p1), (2, .int p2)] := hl
  unfold f_X4_noteFirst at hf
  obtain ⟨H, hH⟩ : ∃ H, H = s.heap := ⟨_, rfl⟩
  obtain ⟨locs, hlocs⟩ : ∃ L : List Loc, L = [] := ⟨_, rfl⟩
  rw [show W p l e (roR 0 0) s m args below meth c s.heap [] 0 0 Q (F0 m 0 ls []) = W p l e (roR 0 0) s m args below meth c H locs 0 0 Q (F0 m 0 ls []) by rw [hH, hlocs]]
  replace hS : va_S A s.heap H locs := by rw [hH, hlocs]; exact hS
  replace hP : va_P D vwCl (w_X4 cI cJ cZ cS pw_A pw_leaves_A pw_first_A pw_leaves pw_first pw_people pw_count) H := by rw [hH]; exact hP
  clear hH hlocs
  refine lv_aload_n (pc := 0) hx hb dX4_noteFirst_0 rfl (lv_at hl 0 rfl) ?_
  refine va_get (pc := 1) (D := D) (ci := 4) (v := .ref pw_first_A) (C := RX4) (T := TX4) (N := 4) hx hb hts inG4 hown hK hP 0 rfl rfl 1 (by decide) (hts _ tw_180) (fun _ h9 => h9) rfl dX4_noteFirst_1 ?_
  refine lv_iload_n (pc := 4) hx hb dX4_noteFirst_4 rfl (lv_at hl 1 rfl) ?_
  refine r_iald (pc := 5) hx hb hK hP 2 0 rfl rfl hf dX4_noteFirst_5 (fun v1 hf => ?_)
  refine lv_bipush (pc := 6) (v := (-6 : Int32)) hx hb dX4_noteFirst_6 (by decide) ?_
  refine r_ic_ne (pc := 8) (tgt := 18) hx hb dX4_noteFirst_8 (by decide) hf (fun hf => ?_) (fun hf => ?_)
  · cases hf
    exact hQ _ _ _ _ dX4_noteFirst_18 hP hD hS
  · refine lv_aload_n (pc := 11) hx hb dX4_noteFirst_11 rfl (lv_at hl 0 rfl) ?_
    refine va_get (pc := 12) (D := D) (ci := 4) (v := .ref pw_first_A) (C := RX4) (T := TX4) (N := 4) hx hb hts inG4 hown hK hP 0 rfl rfl 1 (by decide) (hts _ tw_180) (fun _ h9 => h9) rfl dX4_noteFirst_12 ?_
    refine lv_iload_n (pc := 15) hx hb dX4_noteFirst_15 rfl (lv_at hl 1 rfl) ?_
    refine lv_iload_n (pc := 16) hx hb dX4_noteFirst_16 rfl (lv_at hl 2 rfl) ?_
    refine r_iast (pc := 17) hx hb hK hP hD hS 2 0 rfl rfl hf dX4_noteFirst_17 (fun pw_first_2 H locs hf hP hD hS => ?_)
    have hP : va_P D vwCl (w_X4 cI cJ cZ cS pw_A pw_leaves_A pw_first_A pw_leaves pw_first_2 pw_people pw_count) H := hP
    have hD : va_D A (w_X4 cI cJ cZ cS pw_A pw_leaves_A pw_first_A pw_leaves pw_first_2 pw_people pw_count) := hD
    cases hf
    exact hQ _ _ _ _ dX4_noteFirst_18 hP hD hS
theorem F_X4_leftBehind : CalF yX4_leftBehind cX4_leftBehind 8 (some .long) 3 := ⟨tw_630, tw_9, by decide +kernel⟩
set_option maxRecDepth 100000 in
set_option maxHeartbeats 4000000 in
theorem c_X4_leftBehind (l : Launch) (D : va_G) (cI cJ cZ cS : ClassId) (N : Nat) (pw_A pw_leaves_A pw_first_A st_A st_talls_A st_pairs_A : Nat) (pw_leaves : Nat → Int64) (pw_first : Nat → Int32) (pw_people : Int32) (pw_count : Int32) (st_rows : Int32) (st_columns : Int32) (st_rise : Int32) (st_talls : Nat → Int32) (st_pairs : Nat → Int32) (st_changed : Int32) (p2 : Int32) (p3 : Int32) (r : Int64) (hf : f_X4_leftBehind N pw_people st_rows st_columns st_rise st_talls st_pairs p2 p3 = some r) : RoC l D cI cJ cZ cS yX4_leftBehind cX4_leftBehind 8 (some .long) 4 97 (w_X4X7 cI cJ cZ cS pw_A pw_leaves_A pw_first_A st_A st_talls_A st_pairs_A pw_leaves pw_first pw_people pw_count st_rows st_columns st_rise st_talls st_pairs st_changed) [.ref pw_A, .ref st_A, .int p2, .int p3] (some (.long r)) := by
  refine ro_in_l (own := RX4) (by decide +kernel) rfl (Nat.le_of_ble_eq_true rfl) ?_
  intro p e s m args below meth c ls Q E hQ hP hl
  obtain ⟨hx, hb, hml, hown, hts, hK, hN, hAO⟩ := id E
  have hl : lv_has ls 8 [(0, .ref pw_A), (1, .ref st_A), (2, .int p2), (3, .int p3)] := hl
  unfold f_X4_leftBehind at hf
  refine lv_lconst (pc := 0) (v := (0 : Int64)) hx hb dX4_leftBehind_0 (by decide) ?_
  refine lv_lstore (pc := 1) (lv' := [(4, .long (0 : Int64)), (0, .ref pw_A), (1, .ref st_A), (2, .int p2), (3, .int p3)]) hx hb dX4_leftBehind_1 hl (by decide) rfl (fun ls hl => ?_)
  refine lv_iload_n (pc := 3) hx hb dX4_leftBehind_3 rfl (lv_at hl 3 rfl) ?_
  refine lv_iconst (pc := 4) (v := (1 : Int32)) hx hb dX4_leftBehind_4 (by decide) ?_
  refine lv_iadd (pc := 5) hx hb dX4_leftBehind_5 ?_
  refine lv_istore (pc := 6) (lv' := [(6, .int (p2 + (1 : Int32))), (4, .long (0 : Int64)), (0, .ref pw_A), (1, .ref st_A), (2, .int p2), (3, .int p3)]) hx hb dX4_leftBehind_6 hl (by decide) rfl (fun ls hl => ?_)
  obtain ⟨k4, hk4, hf⟩ := lc1_e hf
  have K4 : ∀ (z5 : Int64) (ls : Array Slot), k4 z5 = some r → lv_has ls 8 [(4, .long z5)] → W p l e (roR 4 97) s m args below meth c s.heap [] 0 0 Q (F0 m 66 ls []) := by
    intro z5 ls hf hl
    rw [hk4] at hf
    refine lv_lload (pc := 66) hx hb dX4_leftBehind_66 (lv_at hl 0 rfl) ?_
    exact hQ _ _ _ dX4_leftBehind_68 hf
  have L8 : ∀ (n : Nat), ∀ (y1 : Int64) (y2 : Int32) (ls : Array Slot), f_X4_leftBehind_L8 pw_people st_rows st_columns st_rise st_talls st_pairs p2 p3 N k4 n y1 y2 = some r → lv_has ls 8 [(0, .ref pw_A), (1, .ref st_A), (2, .int p2), (3, .int p3), (4, .long y1), (6, .int y2)] → W p l e (roR 4 97) s m args below meth c s.heap [] 0 0 Q (F0 m 8 ls []) := by
    intro n
    induction n with
    | zero =>
      intro y1 y2 ls hf
      rw [f_X4_leftBehind_L8] at hf
      cases hf
    | succ n ih =>
      intro y1 y2 ls hf hl
      rw [f_X4_leftBehind_L8] at hf
      refine lv_iload (pc := 8) hx hb dX4_leftBehind_8 (lv_at hl 5 rfl) ?_
      refine lv_aload_n (pc := 10) hx hb dX4_leftBehind_10 rfl (lv_at hl 0 rfl) ?_
      refine va_get (pc := 11) (D := D) (ci := 4) (v := .int pw_people) (C := RX4) (T := TX4) (N := 4) hx hb hts inG4 hown hK hP 0 rfl rfl 2 (by decide) (hts _ tw_181) (fun _ h9 => h9) rfl dX4_leftBehind_11 ?_
      refine r_ic_ge (pc := 14) (tgt := 66) hx hb dX4_leftBehind_14 (by decide) hf (fun hf => ?_) (fun hf => ?_)
      · exact K4 _ _ hf (lv_sub hl [4] rfl)
      · refine lv_iconst (pc := 17) (v := (0 : Int32)) hx hb dX4_leftBehind_17 (by decide) ?_
        refine lv_istore (pc := 18) (lv' := [(7, .int (0 : Int32)), (0, .ref pw_A), (1, .ref st_A), (2, .int p2), (3, .int p3), (4, .long y1), (6, .int y2)]) hx hb dX4_leftBehind_18 hl (by decide) rfl (fun ls hl => ?_)
        obtain ⟨k9, hk9, hf⟩ := lc1_e hf
        have K9 : ∀ (z10 : Int64) (ls : Array Slot), k9 z10 = some r → lv_has ls 8 [(0, .ref pw_A), (1, .ref st_A), (2, .int p2), (3, .int p3), (4, .long z10), (6, .int y2)] → W p l e (roR 4 97) s m args below meth c s.heap [] 0 0 Q (F0 m 60 ls []) := by
          intro z10 ls hf hl
          rw [hk9] at hf
          refine lv_iinc (pc := 60) (v := (y2 + (1 : Int32))) (lv' := [(6, .int (y2 + (1 : Int32))), (0, .ref pw_A), (1, .ref st_A), (2, .int p2), (3, .int p3), (4, .long z10)]) hx hb dX4_leftBehind_60 hl (k := 5) rfl (by rfl) (by decide) rfl (fun ls hl => ?_)
          refine lv_goto (pc := 63) (tgt := 8) hx hb dX4_leftBehind_63 (by decide) ?_
          exact ih _ _ _ hf (lv_sub hl [1, 2, 3, 4, 5, 0] rfl)
        have L20 : ∀ (n : Nat), ∀ (y6 : Int64) (y7 : Int32) (ls : Array Slot), f_X4_leftBehind_L20 st_rows st_columns st_rise st_talls st_pairs p2 p3 y2 k9 n y6 y7 = some r → lv_has ls 8 [(0, .ref pw_A), (1, .ref st_A), (2, .int p2), (3, .int p3), (4, .long y6), (6, .int y2), (7, .int y7)] → W p l e (roR 4 97) s m args below meth c s.heap [] 0 0 Q (F0 m 20 ls []) := by
          intro n
          induction n with
          | zero =>
            intro y6 y7 ls hf
            rw [f_X4_leftBehind_L20] at hf
            cases hf
          | succ n ih =>
            intro y6 y7 ls hf hl
            rw [f_X4_leftBehind_L20] at hf
            refine lv_iload (pc := 20) hx hb dX4_leftBehind_20 (lv_at hl 6 rfl) ?_
            refine lv_aload_n (pc := 22) hx hb dX4_leftBehind_22 rfl (lv_at hl 1 rfl) ?_
            obtain ⟨v11, hv23, hf⟩ := bd_e hf
            refine ro_Vi (pc := 23) (As := []) (rest := [.int y7]) E (c_X7_places l D cI cJ cZ cS st_A st_talls_A st_pairs_A st_rows st_columns st_rise st_talls st_pairs st_changed v11 hv23) F_X7_places rfl rfl tw_626 tw_287 tw_288 (hP.subm [3, 4, 5] rfl) ⟨by decide, by decide⟩ rfl hl.1 (Nat.le_of_ble_eq_true rfl) ⟨by decide, by decide⟩ rfl dX4_leftBehind_23 ?_
            refine r_ic_ge (pc := 26) (tgt := 60) hx hb dX4_leftBehind_26 (by decide) hf (fun hf => ?_) (fun hf => ?_)
            · exact K9 _ _ hf (lv_sub hl [0, 1, 2, 3, 4, 5] rfl)
            · refine lv_aload_n (pc := 29) hx hb dX4_leftBehind_29 rfl (lv_at hl 1 rfl) ?_
              refine lv_iload_n (pc := 30) hx hb dX4_leftBehind_30 rfl (lv_at hl 2 rfl) ?_
              refine lv_iload_n (pc := 31) hx hb dX4_leftBehind_31 rfl (lv_at hl 3 rfl) ?_
              refine lv_iload (pc := 32) hx hb dX4_leftBehind_32 (lv_at hl 5 rfl) ?_
              refine lv_iload (pc := 34) hx hb dX4_leftBehind_34 (lv_at hl 6 rfl) ?_
              obtain ⟨v12, hv36, hf⟩ := bd_e hf
              refine ro_Vi (pc := 36) (As := [.int p2, .int p3, .int y2, .int y7]) (rest := []) E (c_X7_suits l D cI cJ cZ cS st_A st_talls_A st_pairs_A st_rows st_columns st_rise st_talls st_pairs st_changed p2 p3 y2 y7 v12 hv36) F_X7_suits rfl rfl tw_631 tw_632 tw_633 (hP.subm [3, 4, 5] rfl) ⟨by decide, by decide⟩ rfl hl.1 (Nat.le_of_ble_eq_true rfl) ⟨by decide, by decide⟩ rfl dX4_leftBehind_36 ?_
              obtain ⟨k13, hk13, hf⟩ := lc1_e hf
              have K13 : ∀ (x15 : Int64) (ls : Array Slot), k13 x15 = some r → lv_has ls 8 [(0, .ref pw_A), (1, .ref st_A), (2, .int p2), (3, .int p3), (4, .long x15), (6, .int y2), (7, .int y7)] → W p l e (roR 4 97) s m args below meth c s.heap [] 0 0 Q (F0 m 54 ls []) := by
                intro x15 ls hf hl
                rw [hk13] at hf
                refine lv_iinc (pc := 54) (v := (y7 + (1 : Int32))) (lv' := [(7, .int (y7 + (1 : Int32))), (0, .ref pw_A), (1, .ref st_A), (2, .int p2), (3, .int p3), (4, .long x15), (6, .int y2)]) hx hb dX4_leftBehind_54 hl (k := 6) rfl (by rfl) (by decide) rfl (fun ls hl => ?_)
                refine lv_goto (pc := 57) (tgt := 20) hx hb dX4_leftBehind_57 (by decide) ?_
                exact ih _ _ _ hf (lv_sub hl [1, 2, 3, 4, 5, 6, 0] rfl)
              refine r_if_eq (pc := 39) (tgt := 54) hx hb dX4_leftBehind_39 (by decide) hf (fun hf => ?_) (fun hf => ?_)
              · exact K13 _ _ hf hl
              · refine lv_lload (pc := 42) hx hb dX4_leftBehind_42 (lv_at hl 4 rfl) ?_
                refine lv_iload (pc := 44) hx hb dX4_leftBehind_44 (lv_at hl 5 rfl) ?_
                refine lv_iload (pc := 46) hx hb dX4_leftBehind_46 (lv_at hl 6 rfl) ?_
                obtain ⟨v14, hv48, hf⟩ := bd_e hf
                refine ro_Sl (pc := 48) (As := [.int y2, .int y7]) (rest := [.long y6]) E (c_X4_bitOf l D cI cJ cZ cS y2 y7 v14 hv48) F_X4_bitOf tw_635 tw_636  va_P_nil ⟨by decide, by decide⟩ rfl hl.1 (Nat.le_of_ble_eq_true rfl) ⟨by decide, by decide⟩ rfl dX4_leftBehind_48 ?_
                refine lv_lor (pc := 51) hx hb dX4_leftBehind_51 ?_
                refine lv_lstore (pc := 52) (lv' := [(4, .long (y6 ||| v14)), (0, .ref pw_A), (1, .ref st_A), (2, .int p2), (3, .int p3), (6, .int y2), (7, .int y7)]) hx hb dX4_leftBehind_52 hl (by decide) rfl (fun ls hl => ?_)
                exact K13 _ _ hf (lv_sub hl [1, 2, 3, 4, 0, 5, 6] rfl)
        exact L20 N _ _ _ hf (lv_sub hl [1, 2, 3, 4, 5, 6, 0] rfl)
  exact L8 N _ _ _ hf (lv_sub hl [2, 3, 4, 5, 1, 0] rfl)
theorem F_X4_allPlaces : CalF yX4_allPlaces cX4_allPlaces 6 (some .long) 1 := ⟨tw_641, tw_9, by decide +kernel⟩
set_option maxRecDepth 100000 in
set_option maxHeartbeats 4000000 in
theorem c_X4_allPlaces (l : Launch) (D : va_G) (cI cJ cZ cS : ClassId) (N : Nat) (pw_A pw_leaves_A pw_first_A st_A st_talls_A st_pairs_A : Nat) (pw_leaves : Nat → Int64) (pw_first : Nat → Int32) (pw_people : Int32) (pw_count : Int32) (st_rows : Int32) (st_columns : Int32) (st_rise : Int32) (st_talls : Nat → Int32) (st_pairs : Nat → Int32) (st_changed : Int32) (r : Int64) (hf : f_X4_allPlaces N pw_people st_rows st_columns = some r) : RoC l D cI cJ cZ cS yX4_allPlaces cX4_allPlaces 6 (some .long) 1 21 (w_X4X7 cI cJ cZ cS pw_A pw_leaves_A pw_first_A st_A st_talls_A st_pairs_A pw_leaves pw_first pw_people pw_count st_rows st_columns st_rise st_talls st_pairs st_changed) [.ref pw_A, .ref st_A] (some (.long r)) := by
  refine ro_in_l (own := RX4) (by decide +kernel) rfl (Nat.le_of_ble_eq_true rfl) ?_
  intro p e s m args below meth c ls Q E hQ hP hl
  obtain ⟨hx, hb, hml, hown, hts, hK, hN, hAO⟩ := id E
  have hl : lv_has ls 6 [(0, .ref pw_A), (1, .ref st_A)] := hl
  unfold f_X4_allPlaces at hf
  refine lv_lconst (pc := 0) (v := (0 : Int64)) hx hb dX4_allPlaces_0 (by decide) ?_
  refine lv_lstore_n (pc := 1) (lv' := [(2, .long (0 : Int64)), (0, .ref pw_A), (1, .ref st_A)]) hx hb dX4_allPlaces_1 rfl hl (by decide) rfl (fun ls hl => ?_)
  refine lv_iconst (pc := 2) (v := (0 : Int32)) hx hb dX4_allPlaces_2 (by decide) ?_
  refine lv_istore (pc := 3) (lv' := [(4, .int (0 : Int32)), (2, .long (0 : Int64)), (0, .ref pw_A), (1, .ref st_A)]) hx hb dX4_allPlaces_3 hl (by decide) rfl (fun ls hl => ?_)
  obtain ⟨k4, hk4, hf⟩ := lc1_e hf
  have K4 : ∀ (z5 : Int64) (ls : Array Slot), k4 z5 = some r → lv_has ls 6 [(2, .long z5)] → W p l e (roR 1 21) s m args below meth c s.heap [] 0 0 Q (F0 m 48 ls []) := by
    intro z5 ls hf hl
    rw [hk4] at hf
    refine lv_lload_n (pc := 48) hx hb dX4_allPlaces_48 rfl (lv_at hl 0 rfl) ?_
    exact hQ _ _ _ dX4_allPlaces_49 hf
  have L5 : ∀ (n : Nat), ∀ (y1 : Int64) (y2 : Int32) (ls : Array Slot), f_X4_allPlaces_L5 pw_people st_rows st_columns N k4 n y1 y2 = some r → lv_has ls 6 [(0, .ref pw_A), (1, .ref st_A), (2, .long y1), (4, .int y2)] → W p l e (roR 1 21) s m args below meth c s.heap [] 0 0 Q (F0 m 5 ls []) := by
    intro n
    induction n with
    | zero =>
      intro y1 y2 ls hf
      rw [f_X4_allPlaces_L5] at hf
      cases hf
    | succ n ih =>
      intro y1 y2 ls hf hl
      rw [f_X4_allPlaces_L5] at hf
      refine lv_iload (pc := 5) hx hb dX4_allPlaces_5 (lv_at hl 3 rfl) ?_
      refine lv_aload_n (pc := 7) hx hb dX4_allPlaces_7 rfl (lv_at hl 0 rfl) ?_
      refine va_get (pc := 8) (D := D) (ci := 4) (v := .int pw_people) (C := RX4) (T := TX4) (N := 4) hx hb hts inG4 hown hK hP 0 rfl rfl 2 (by decide) (hts _ tw_181) (fun _ h9 => h9) rfl dX4_allPlaces_8 ?_
      refine r_ic_ge (pc := 11) (tgt := 48) hx hb dX4_allPlaces_11 (by decide) hf (fun hf => ?_) (fun hf => ?_)
      · exact K4 _ _ hf (lv_sub hl [2] rfl)
      · refine lv_iconst (pc := 14) (v := (0 : Int32)) hx hb dX4_allPlaces_14 (by decide) ?_
        refine lv_istore (pc := 15) (lv' := [(5, .int (0 : Int32)), (0, .ref pw_A), (1, .ref st_A), (2, .long y1), (4, .int y2)]) hx hb dX4_allPlaces_15 hl (by decide) rfl (fun ls hl => ?_)
        obtain ⟨k9, hk9, hf⟩ := lc1_e hf
        have K9 : ∀ (z10 : Int64) (ls : Array Slot), k9 z10 = some r → lv_has ls 6 [(0, .ref pw_A), (1, .ref st_A), (2, .long z10), (4, .int y2)] → W p l e (roR 1 21) s m args below meth c s.heap [] 0 0 Q (F0 m 42 ls []) := by
          intro z10 ls hf hl
          rw [hk9] at hf
          refine lv_iinc (pc := 42) (v := (y2 + (1 : Int32))) (lv' := [(4, .int (y2 + (1 : Int32))), (0, .ref pw_A), (1, .ref st_A), (2, .long z10)]) hx hb dX4_allPlaces_42 hl (k := 3) rfl (by rfl) (by decide) rfl (fun ls hl => ?_)
          refine lv_goto (pc := 45) (tgt := 5) hx hb dX4_allPlaces_45 (by decide) ?_
          exact ih _ _ _ hf (lv_sub hl [1, 2, 3, 0] rfl)
        have L17 : ∀ (n : Nat), ∀ (y6 : Int64) (y7 : Int32) (ls : Array Slot), f_X4_allPlaces_L17 st_rows st_columns y2 k9 n y6 y7 = some r → lv_has ls 6 [(0, .ref pw_A), (1, .ref st_A), (2, .long y6), (4, .int y2), (5, .int y7)] → W p l e (roR 1 21) s m args below meth c s.heap [] 0 0 Q (F0 m 17 ls []) := by
          intro n
          induction n with
          | zero =>
            intro y6 y7 ls hf
            rw [f_X4_allPlaces_L17] at hf
            cases hf
          | succ n ih =>
            intro y6 y7 ls hf hl
            rw [f_X4_allPlaces_L17] at hf
            refine lv_iload (pc := 17) hx hb dX4_allPlaces_17 (lv_at hl 4 rfl) ?_
            refine lv_aload_n (pc := 19) hx hb dX4_allPlaces_19 rfl (lv_at hl 1 rfl) ?_
            obtain ⟨v11, hv20, hf⟩ := bd_e hf
            refine ro_Vi (pc := 20) (As := []) (rest := [.int y7]) E (c_X7_places l D cI cJ cZ cS st_A st_talls_A st_pairs_A st_rows st_columns st_rise st_talls st_pairs st_changed v11 hv20) F_X7_places rfl rfl tw_626 tw_287 tw_288 (hP.subm [3, 4, 5] rfl) ⟨by decide, by decide⟩ rfl hl.1 (Nat.le_of_ble_eq_true rfl) ⟨by decide, by decide⟩ rfl dX4_allPlaces_20 ?_
            refine r_ic_ge (pc := 23) (tgt := 42) hx hb dX4_allPlaces_23 (by decide) hf (fun hf => ?_) (fun hf => ?_)
            · exact K9 _ _ hf (lv_sub hl [0, 1, 2, 3] rfl)
            · refine lv_lload_n (pc := 26) hx hb dX4_allPlaces_26 rfl (lv_at hl 2 rfl) ?_
              refine lv_iload (pc := 27) hx hb dX4_allPlaces_27 (lv_at hl 3 rfl) ?_
              refine lv_iload (pc := 29) hx hb dX4_allPlaces_29 (lv_at hl 4 rfl) ?_
              obtain ⟨v12, hv31, hf⟩ := bd_e hf
              refine ro_Sl (pc := 31) (As := [.int y2, .int y7]) (rest := [.long y6]) E (c_X4_bitOf l D cI cJ cZ cS y2 y7 v12 hv31) F_X4_bitOf tw_635 tw_636  va_P_nil ⟨by decide, by decide⟩ rfl hl.1 (Nat.le_of_ble_eq_true rfl) ⟨by decide, by decide⟩ rfl dX4_allPlaces_31 ?_
              refine lv_lor (pc := 34) hx hb dX4_allPlaces_34 ?_
              refine lv_lstore_n (pc := 35) (lv' := [(2, .long (y6 ||| v12)), (0, .ref pw_A), (1, .ref st_A), (4, .int y2), (5, .int y7)]) hx hb dX4_allPlaces_35 rfl hl (by decide) rfl (fun ls hl => ?_)
              refine lv_iinc (pc := 36) (v := (y7 + (1 : Int32))) (lv' := [(5, .int (y7 + (1 : Int32))), (2, .long (y6 ||| v12)), (0, .ref pw_A), (1, .ref st_A), (4, .int y2)]) hx hb dX4_allPlaces_36 hl (k := 4) rfl (by rfl) (by decide) rfl (fun ls hl => ?_)
              refine lv_goto (pc := 39) (tgt := 17) hx hb dX4_allPlaces_39 (by decide) ?_
              exact ih _ _ _ hf (lv_sub hl [2, 3, 1, 4, 0] rfl)
        exact L17 N _ _ _ hf (lv_sub hl [1, 2, 3, 4, 0] rfl)
  exact L5 N _ _ _ hf (lv_sub hl [2, 3, 1, 0] rfl)
