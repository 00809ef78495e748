theorem F_X7_startPeople : CalF yX7_startPeople cX7_startPeople 2 none 0 := ⟨tw_110, tw_7, by decide +kernel⟩
set_option maxRecDepth 100000 in
set_option maxHeartbeats 4000000 in
theorem c_X7_startPeople (l : Launch) (D : va_G) (cI cJ cZ cS : ClassId) (N : Nat) (st_A st_talls_A st_pairs_A : Nat) (st_rows : Int32) (st_columns : Int32) (st_rise : Int32) (st_talls : Nat → Int32) (st_pairs : Nat → Int32) (st_changed : Int32) (sz : Nat) (r_st_changed : Int32) (r_st_talls : Nat → Int32) (r_st_pairs : Nat → Int32) (hf : f_X7_startPeople N st_talls st_pairs = some (r_st_changed, r_st_talls, r_st_pairs)) : RwC l D cI cJ cZ cS yX7_startPeople cX7_startPeople 2 none 0 0 (w_X7 cI cJ cZ cS st_A st_talls_A st_pairs_A st_rows st_columns st_rise st_talls st_pairs st_changed) sz [.ref st_A] none (w_X7 cI cJ cZ cS st_A st_talls_A st_pairs_A st_rows st_columns st_rise r_st_talls r_st_pairs r_st_changed) := by
  refine rw_in_v (own := RX7) (by decide +kernel) rfl (Nat.le_of_ble_eq_true rfl) ?_
  intro p e s m args below meth c ls Q A E hA hQ hP hD hS hl
  obtain ⟨hx, hb, hml, hown, hts, hK, hN, hAO⟩ := id E
  have hl : lv_has ls 2 [(0, .ref st_A)] := hl
  unfold f_X7_startPeople at hf
  obtain ⟨H, hH⟩ : ∃ H, H = s.heap := ⟨_, rfl⟩
  obtain ⟨locs, hlocs⟩ : ∃ L : List Loc, L = [] := ⟨_, rfl⟩
  rw [show W p l e (roR 0 0) s m args below meth c s.heap [] 0 0 Q (F0 m 0 ls []) = W p l e (roR 0 0) s m args below meth c H locs 0 0 Q (F0 m 0 ls []) by rw [hH, hlocs]]
  replace hS : va_S A s.heap H locs := by rw [hH, hlocs]; exact hS
  replace hP : va_P D vwCl (w_X7 cI cJ cZ cS st_A st_talls_A st_pairs_A st_rows st_columns st_rise st_talls st_pairs st_changed) H := by rw [hH]; exact hP
  clear hH hlocs
  refine lv_iconst (pc := 0) (v := (0 : Int32)) hx hb dX7_startPeople_0 (by decide) ?_
  refine lv_istore_n (pc := 1) (lv' := [(1, .int (0 : Int32)), (0, .ref st_A)]) hx hb dX7_startPeople_1 rfl hl (by decide) rfl (fun ls hl => ?_)
  obtain ⟨k4, hk4, hf⟩ := lc1_e hf
  have K4 : ∀ (st_talls_5 : Nat → Int32) (H : Heap) (locs : List Loc) (ls : Array Slot), k4 st_talls_5 = some (r_st_changed, r_st_talls, r_st_pairs) → va_P D vwCl (w_X7 cI cJ cZ cS st_A st_talls_A st_pairs_A st_rows st_columns st_rise st_talls_5 st_pairs st_changed) H → va_D A (w_X7 cI cJ cZ cS st_A st_talls_A st_pairs_A st_rows st_columns st_rise st_talls_5 st_pairs st_changed) → va_S A s.heap H locs → lv_has ls 2 [(0, .ref st_A)] → W p l e (roR 0 0) s m args below meth c H locs 0 0 Q (F0 m 23 ls []) := by
    intro st_talls_5 H locs ls hf hP hD hS hl
    rw [hk4] at hf
    refine lv_iconst (pc := 23) (v := (0 : Int32)) hx hb dX7_startPeople_23 (by decide) ?_
    refine lv_istore_n (pc := 24) (lv' := [(1, .int (0 : Int32)), (0, .ref st_A)]) hx hb dX7_startPeople_24 rfl hl (by decide) rfl (fun ls hl => ?_)
    obtain ⟨k10, hk10, hf⟩ := lc1_e hf
    have K10 : ∀ (st_pairs_11 : Nat → Int32) (H : Heap) (locs : List Loc) (ls : Array Slot), k10 st_pairs_11 = some (r_st_changed, r_st_talls, r_st_pairs) → va_P D vwCl (w_X7 cI cJ cZ cS st_A st_talls_A st_pairs_A st_rows st_columns st_rise st_talls_5 st_pairs_11 st_changed) H → va_D A (w_X7 cI cJ cZ cS st_A st_talls_A st_pairs_A st_rows st_columns st_rise st_talls_5 st_pairs_11 st_changed) → va_S A s.heap H locs → lv_has ls 2 [(0, .ref st_A)] → W p l e (roR 0 0) s m args below meth c H locs 0 0 Q (F0 m 44 ls []) := by
      intro st_pairs_11 H locs ls hf hP hD hS hl
      rw [hk10] at hf
      refine lv_aload_n (pc := 44) hx hb dX7_startPeople_44 rfl (lv_at hl 0 rfl) ?_
      refine lv_iconst (pc := 45) (v := (1 : Int32)) hx hb dX7_startPeople_45 (by decide) ?_
      refine va_put (pc := 46) (D := D) (ci := 7) (v := .int (1 : Int32)) (ty := .boolean) (C := RX7) (T := TX7) (N := 6) hx hb hts inG7 tyX7 tyX7_ok nmX7 hown hK hP hD hS 0 rfl rfl 5 (by decide) (hts _ tw_119) (fun _ h9 => h9) rfl (by decide +kernel) rfl rfl (Nat.le_of_ble_eq_true rfl) dX7_startPeople_46 (fun H locs hP hD hS => ?_)
      have hP : va_P D vwCl (w_X7 cI cJ cZ cS st_A st_talls_A st_pairs_A st_rows st_columns st_rise st_talls_5 st_pairs_11 (1 : Int32)) H := hP
      have hD : va_D A (w_X7 cI cJ cZ cS st_A st_talls_A st_pairs_A st_rows st_columns st_rise st_talls_5 st_pairs_11 (1 : Int32)) := hD
      cases hf
      exact hQ _ _ _ _ dX7_startPeople_49 hP hD hS
    have L25 : ∀ (n : Nat), ∀ (y7 : Int32) (st_pairs_8 : Nat → Int32) (H : Heap) (locs : List Loc) (ls : Array Slot), f_X7_startPeople_L25 k10 n y7 st_pairs_8 = some (r_st_changed, r_st_talls, r_st_pairs) → va_P D vwCl (w_X7 cI cJ cZ cS st_A st_talls_A st_pairs_A st_rows st_columns st_rise st_talls_5 st_pairs_8 st_changed) H → va_D A (w_X7 cI cJ cZ cS st_A st_talls_A st_pairs_A st_rows st_columns st_rise st_talls_5 st_pairs_8 st_changed) → va_S A s.heap H locs → lv_has ls 2 [(0, .ref st_A), (1, .int y7)] → W p l e (roR 0 0) s m args below meth c H locs 0 0 Q (F0 m 25 ls []) := by
      intro n
      induction n with
      | zero =>
        intro y7 st_pairs_8 H locs ls hf
        rw [f_X7_startPeople_L25] at hf
        cases hf
      | succ n ih =>
        intro y7 st_pairs_8 H locs ls hf hP hD hS hl
        rw [f_X7_startPeople_L25] at hf
        refine lv_iload_n (pc := 25) hx hb dX7_startPeople_25 rfl (lv_at hl 1 rfl) ?_
        refine lv_bipush (pc := 26) (v := (64 : Int32)) hx hb dX7_startPeople_26 (by decide) ?_
        refine r_ic_ge (pc := 28) (tgt := 44) hx hb dX7_startPeople_28 (by decide) hf (fun hf => ?_) (fun hf => ?_)
        · exact K10 _ _ _ _ hf hP hD hS (lv_sub hl [0] rfl)
        · refine lv_aload_n (pc := 31) hx hb dX7_startPeople_31 rfl (lv_at hl 0 rfl) ?_
          refine va_get (pc := 32) (D := D) (ci := 7) (v := .ref st_pairs_A) (C := RX7) (T := TX7) (N := 6) hx hb hts inG7 hown hK hP 0 rfl rfl 4 (by decide) (hts _ tw_118) (fun _ h9 => h9) rfl dX7_startPeople_32 ?_
          refine lv_iload_n (pc := 35) hx hb dX7_startPeople_35 rfl (lv_at hl 1 rfl) ?_
          refine lv_iconst (pc := 36) (v := (0 : Int32)) hx hb dX7_startPeople_36 (by decide) ?_
          refine r_iast (pc := 37) hx hb hK hP hD hS 2 0 rfl rfl hf dX7_startPeople_37 (fun st_pairs_12 H locs hf hP hD hS => ?_)
          have hP : va_P D vwCl (w_X7 cI cJ cZ cS st_A st_talls_A st_pairs_A st_rows st_columns st_rise st_talls_5 st_pairs_12 st_changed) H := hP
          have hD : va_D A (w_X7 cI cJ cZ cS st_A st_talls_A st_pairs_A st_rows st_columns st_rise st_talls_5 st_pairs_12 st_changed) := hD
          refine lv_iinc (pc := 38) (v := (y7 + (1 : Int32))) (lv' := [(1, .int (y7 + (1 : Int32))), (0, .ref st_A)]) hx hb dX7_startPeople_38 hl (k := 1) rfl (by rfl) (by decide) rfl (fun ls hl => ?_)
          refine lv_goto (pc := 41) (tgt := 25) hx hb dX7_startPeople_41 (by decide) ?_
          exact ih _ _ _ _ _ hf hP hD hS (lv_sub hl [1, 0] rfl)
    exact L25 N _ _ _ _ _ hf hP hD hS (lv_sub hl [1, 0] rfl)
  have L2 : ∀ (n : Nat), ∀ (y1 : Int32) (st_talls_2 : Nat → Int32) (H : Heap) (locs : List Loc) (ls : Array Slot), f_X7_startPeople_L2 k4 n y1 st_talls_2 = some (r_st_changed, r_st_talls, r_st_pairs) → va_P D vwCl (w_X7 cI cJ cZ cS st_A st_talls_A st_pairs_A st_rows st_columns st_rise st_talls_2 st_pairs st_changed) H → va_D A (w_X7 cI cJ cZ cS st_A st_talls_A st_pairs_A st_rows st_columns st_rise st_talls_2 st_pairs st_changed) → va_S A s.heap H locs → lv_has ls 2 [(0, .ref st_A), (1, .int y1)] → W p l e (roR 0 0) s m args below meth c H locs 0 0 Q (F0 m 2 ls []) := by
    intro n
    induction n with
    | zero =>
      intro y1 st_talls_2 H locs ls hf
      rw [f_X7_startPeople_L2] at hf
      cases hf
    | succ n ih =>
      intro y1 st_talls_2 H locs ls hf hP hD hS hl
      rw [f_X7_startPeople_L2] at hf
      refine lv_iload_n (pc := 2) hx hb dX7_startPeople_2 rfl (lv_at hl 1 rfl) ?_
      refine lv_bipush (pc := 3) (v := (8 : Int32)) hx hb dX7_startPeople_3 (by decide) ?_
      refine r_ic_ge (pc := 5) (tgt := 23) hx hb dX7_startPeople_5 (by decide) hf (fun hf => ?_) (fun hf => ?_)
      · exact K4 _ _ _ _ hf hP hD hS (lv_sub hl [0] rfl)
      · refine lv_aload_n (pc := 8) hx hb dX7_startPeople_8 rfl (lv_at hl 0 rfl) ?_
        refine va_get (pc := 9) (D := D) (ci := 7) (v := .ref st_talls_A) (C := RX7) (T := TX7) (N := 6) hx hb hts inG7 hown hK hP 0 rfl rfl 3 (by decide) (hts _ tw_117) (fun _ h9 => h9) rfl dX7_startPeople_9 ?_
        refine lv_iload_n (pc := 12) hx hb dX7_startPeople_12 rfl (lv_at hl 1 rfl) ?_
        refine lv_sipush (pc := 13) (v := (170 : Int32)) hx hb dX7_startPeople_13 (by decide) ?_
        refine r_iast (pc := 16) hx hb hK hP hD hS 1 0 rfl rfl hf dX7_startPeople_16 (fun st_talls_6 H locs hf hP hD hS => ?_)
        have hP : va_P D vwCl (w_X7 cI cJ cZ cS st_A st_talls_A st_pairs_A st_rows st_columns st_rise st_talls_6 st_pairs st_changed) H := hP
        have hD : va_D A (w_X7 cI cJ cZ cS st_A st_talls_A st_pairs_A st_rows st_columns st_rise st_talls_6 st_pairs st_changed) := hD
        refine lv_iinc (pc := 17) (v := (y1 + (1 : Int32))) (lv' := [(1, .int (y1 + (1 : Int32))), (0, .ref st_A)]) hx hb dX7_startPeople_17 hl (k := 1) rfl (by rfl) (by decide) rfl (fun ls hl => ?_)
        refine lv_goto (pc := 20) (tgt := 2) hx hb dX7_startPeople_20 (by decide) ?_
        exact ih _ _ _ _ _ hf hP hD hS (lv_sub hl [1, 0] rfl)
  exact L2 N _ _ _ _ _ hf hP hD hS (lv_sub hl [1, 0] rfl)
theorem F_X7_copyFrom : CalF yX7_copyFrom cX7_copyFrom 2 none 1 := ⟨tw_683, tw_7, by decide +kernel⟩
set_option maxRecDepth 100000 in
set_option maxHeartbeats 4000000 in
theorem c_X7_copyFrom (l : Launch) (D : va_G) (cI cJ cZ cS : ClassId) (st_A st_talls_A st_pairs_A st2_A st2_talls_A st2_pairs_A : Nat) (st_rows : Int32) (st_columns : Int32) (st_rise : Int32) (st_talls : Nat → Int32) (st_pairs : Nat → Int32) (st_changed : Int32) (st2_rows : Int32) (st2_columns : Int32) (st2_rise : Int32) (st2_talls : Nat → Int32) (st2_pairs : Nat → Int32) (st2_changed : Int32) (sz : Nat) (r_st_rows : Int32) (r_st_columns : Int32) (r_st_rise : Int32) (r_st_changed : Int32) (r_st_talls : Nat → Int32) (r_st_pairs : Nat → Int32) (hf : f_X7_copyFrom st_talls st_pairs st2_rows st2_columns st2_rise st2_talls st2_pairs = some (r_st_rows, r_st_columns, r_st_rise, r_st_changed, r_st_talls, r_st_pairs)) : RwC l D cI cJ cZ cS yX7_copyFrom cX7_copyFrom 2 none 1 64 (w_X7X7 cI cJ cZ cS st_A st_talls_A st_pairs_A st2_A st2_talls_A st2_pairs_A st_rows st_columns st_rise st_talls st_pairs st_changed st2_rows st2_columns st2_rise st2_talls st2_pairs st2_changed) sz [.ref st_A, .ref st2_A] none (w_X7X7 cI cJ cZ cS st_A st_talls_A st_pairs_A st2_A st2_talls_A st2_pairs_A r_st_rows r_st_columns r_st_rise r_st_talls r_st_pairs r_st_changed st2_rows st2_columns st2_rise st2_talls st2_pairs st2_changed) := by
  refine rw_in_v (own := RX7) (by decide +kernel) rfl (Nat.le_of_ble_eq_true rfl) ?_
  intro p e s m args below meth c ls Q A E hA hQ hP hD hS hl
  obtain ⟨hx, hb, hml, hown, hts, hK, hN, hAO⟩ := id E
  have hl : lv_has ls 2 [(0, .ref st_A), (1, .ref st2_A)] := hl
  unfold f_X7_copyFrom at hf
  obtain ⟨H, hH⟩ : ∃ H, H = s.heap := ⟨_, rfl⟩
  obtain ⟨locs, hlocs⟩ : ∃ L : List Loc, L = [] := ⟨_, rfl⟩
  rw [show W p l e (roR 1 64) s m args below meth c s.heap [] 0 0 Q (F0 m 0 ls []) = W p l e (roR 1 64) s m args below meth c H locs 0 0 Q (F0 m 0 ls []) by rw [hH, hlocs]]
  replace hS : va_S A s.heap H locs := by rw [hH, hlocs]; exact hS
  replace hP : va_P D vwCl (w_X7X7 cI cJ cZ cS st_A st_talls_A st_pairs_A st2_A st2_talls_A st2_pairs_A st_rows st_columns st_rise st_talls st_pairs st_changed st2_rows st2_columns st2_rise st2_talls st2_pairs st2_changed) H := by rw [hH]; exact hP
  clear hH hlocs
  refine lv_aload_n (pc := 0) hx hb dX7_copyFrom_0 rfl (lv_at hl 0 rfl) ?_
  refine lv_aload_n (pc := 1) hx hb dX7_copyFrom_1 rfl (lv_at hl 1 rfl) ?_
  refine va_get (pc := 2) (D := D) (ci := 7) (v := .int st2_rows) (C := RX7) (T := TX7) (N := 6) hx hb hts inG7 hown hK hP 3 rfl rfl 0 (by decide) (hts _ tw_111) (fun _ h9 => h9) rfl dX7_copyFrom_2 ?_
  refine va_put (pc := 5) (D := D) (ci := 7) (v := .int st2_rows) (ty := .int) (C := RX7) (T := TX7) (N := 6) hx hb hts inG7 tyX7 tyX7_ok nmX7 hown hK hP hD hS 0 rfl rfl 0 (by decide) (hts _ tw_111) (fun _ h9 => h9) rfl (by decide +kernel) rfl rfl (Nat.le_of_ble_eq_true rfl) dX7_copyFrom_5 (fun H locs hP hD hS => ?_)
  have hP : va_P D vwCl (w_X7X7 cI cJ cZ cS st_A st_talls_A st_pairs_A st2_A st2_talls_A st2_pairs_A st2_rows st_columns st_rise st_talls st_pairs st_changed st2_rows st2_columns st2_rise st2_talls st2_pairs st2_changed) H := hP
  have hD : va_D A (w_X7X7 cI cJ cZ cS st_A st_talls_A st_pairs_A st2_A st2_talls_A st2_pairs_A st2_rows st_columns st_rise st_talls st_pairs st_changed st2_rows st2_columns st2_rise st2_talls st2_pairs st2_changed) := hD
  refine lv_aload_n (pc := 8) hx hb dX7_copyFrom_8 rfl (lv_at hl 0 rfl) ?_
  refine lv_aload_n (pc := 9) hx hb dX7_copyFrom_9 rfl (lv_at hl 1 rfl) ?_
  refine va_get (pc := 10) (D := D) (ci := 7) (v := .int st2_columns) (C := RX7) (T := TX7) (N := 6) hx hb hts inG7 hown hK hP 3 rfl rfl 1 (by decide) (hts _ tw_113) (fun _ h9 => h9) rfl dX7_copyFrom_10 ?_
  refine va_put (pc := 13) (D := D) (ci := 7) (v := .int st2_columns) (ty := .int) (C := RX7) (T := TX7) (N := 6) hx hb hts inG7 tyX7 tyX7_ok nmX7 hown hK hP hD hS 0 rfl rfl 1 (by decide) (hts _ tw_113) (fun _ h9 => h9) rfl (by decide +kernel) rfl rfl (Nat.le_of_ble_eq_true rfl) dX7_copyFrom_13 (fun H locs hP hD hS => ?_)
  have hP : va_P D vwCl (w_X7X7 cI cJ cZ cS st_A st_talls_A st_pairs_A st2_A st2_talls_A st2_pairs_A st2_rows st2_columns st_rise st_talls st_pairs st_changed st2_rows st2_columns st2_rise st2_talls st2_pairs st2_changed) H := hP
  have hD : va_D A (w_X7X7 cI cJ cZ cS st_A st_talls_A st_pairs_A st2_A st2_talls_A st2_pairs_A st2_rows st2_columns st_rise st_talls st_pairs st_changed st2_rows st2_columns st2_rise st2_talls st2_pairs st2_changed) := hD
  refine lv_aload_n (pc := 16) hx hb dX7_copyFrom_16 rfl (lv_at hl 0 rfl) ?_
  refine lv_aload_n (pc := 17) hx hb dX7_copyFrom_17 rfl (lv_at hl 1 rfl) ?_
  refine va_get (pc := 18) (D := D) (ci := 7) (v := .int st2_rise) (C := RX7) (T := TX7) (N := 6) hx hb hts inG7 hown hK hP 3 rfl rfl 2 (by decide) (hts _ tw_115) (fun _ h9 => h9) rfl dX7_copyFrom_18 ?_
  refine va_put (pc := 21) (D := D) (ci := 7) (v := .int st2_rise) (ty := .int) (C := RX7) (T := TX7) (N := 6) hx hb hts inG7 tyX7 tyX7_ok nmX7 hown hK hP hD hS 0 rfl rfl 2 (by decide) (hts _ tw_115) (fun _ h9 => h9) rfl (by decide +kernel) rfl rfl (Nat.le_of_ble_eq_true rfl) dX7_copyFrom_21 (fun H locs hP hD hS => ?_)
  have hP : va_P D vwCl (w_X7X7 cI cJ cZ cS st_A st_talls_A st_pairs_A st2_A st2_talls_A st2_pairs_A st2_rows st2_columns st2_rise st_talls st_pairs st_changed st2_rows st2_columns st2_rise st2_talls st2_pairs st2_changed) H := hP
  have hD : va_D A (w_X7X7 cI cJ cZ cS st_A st_talls_A st_pairs_A st2_A st2_talls_A st2_pairs_A st2_rows st2_columns st2_rise st_talls st_pairs st_changed st2_rows st2_columns st2_rise st2_talls st2_pairs st2_changed) := hD
  refine lv_aload_n (pc := 24) hx hb dX7_copyFrom_24 rfl (lv_at hl 1 rfl) ?_
  refine va_get (pc := 25) (D := D) (ci := 7) (v := .ref st2_talls_A) (C := RX7) (T := TX7) (N := 6) hx hb hts inG7 hown hK hP 3 rfl rfl 3 (by decide) (hts _ tw_117) (fun _ h9 => h9) rfl dX7_copyFrom_25 ?_
  refine lv_iconst (pc := 28) (v := (0 : Int32)) hx hb dX7_copyFrom_28 (by decide) ?_
  refine lv_aload_n (pc := 29) hx hb dX7_copyFrom_29 rfl (lv_at hl 0 rfl) ?_
  refine va_get (pc := 30) (D := D) (ci := 7) (v := .ref st_talls_A) (C := RX7) (T := TX7) (N := 6) hx hb hts inG7 hown hK hP 0 rfl rfl 3 (by decide) (hts _ tw_117) (fun _ h9 => h9) rfl dX7_copyFrom_30 ?_
  refine lv_iconst (pc := 33) (v := (0 : Int32)) hx hb dX7_copyFrom_33 (by decide) ?_
  refine lv_bipush (pc := 34) (v := (8 : Int32)) hx hb dX7_copyFrom_34 (by decide) ?_
  refine va_copyi (pc := 36) hx hb (E.2.2.1.trans hl.1.symm) hown (hts _ tw_684) (hts _ tw_669) (hts _ tw_668) (hts _ tw_13) hK hP hD hS 4 1 0 0 rfl rfl rfl rfl rfl (by decide) (by decide) (by decide) (by decide) (by decide) (fun _ _ => rfl) (by decide) (Nat.le_of_ble_eq_true rfl) dX7_copyFrom_36 (fun H locs hP hD hS => ?_)
  have hP : va_P D vwCl (w_X7X7 cI cJ cZ cS st_A st_talls_A st_pairs_A st2_A st2_talls_A st2_pairs_A st2_rows st2_columns st2_rise (va_cpy st2_talls st_talls 0 0 8) st_pairs st_changed st2_rows st2_columns st2_rise st2_talls st2_pairs st2_changed) H := hP
  have hD : va_D A (w_X7X7 cI cJ cZ cS st_A st_talls_A st_pairs_A st2_A st2_talls_A st2_pairs_A st2_rows st2_columns st2_rise (va_cpy st2_talls st_talls 0 0 8) st_pairs st_changed st2_rows st2_columns st2_rise st2_talls st2_pairs st2_changed) := hD
  refine lv_aload_n (pc := 39) hx hb dX7_copyFrom_39 rfl (lv_at hl 1 rfl) ?_
  refine va_get (pc := 40) (D := D) (ci := 7) (v := .ref st2_pairs_A) (C := RX7) (T := TX7) (N := 6) hx hb hts inG7 hown hK hP 3 rfl rfl 4 (by decide) (hts _ tw_118) (fun _ h9 => h9) rfl dX7_copyFrom_40 ?_
  refine lv_iconst (pc := 43) (v := (0 : Int32)) hx hb dX7_copyFrom_43 (by decide) ?_
  refine lv_aload_n (pc := 44) hx hb dX7_copyFrom_44 rfl (lv_at hl 0 rfl) ?_
  refine va_get (pc := 45) (D := D) (ci := 7) (v := .ref st_pairs_A) (C := RX7) (T := TX7) (N := 6) hx hb hts inG7 hown hK hP 0 rfl rfl 4 (by decide) (hts _ tw_118) (fun _ h9 => h9) rfl dX7_copyFrom_45 ?_
  refine lv_iconst (pc := 48) (v := (0 : Int32)) hx hb dX7_copyFrom_48 (by decide) ?_
  refine lv_bipush (pc := 49) (v := (64 : Int32)) hx hb dX7_copyFrom_49 (by decide) ?_
  refine va_copyi (pc := 51) hx hb (E.2.2.1.trans hl.1.symm) hown (hts _ tw_684) (hts _ tw_669) (hts _ tw_668) (hts _ tw_13) hK hP hD hS 5 2 0 0 rfl rfl rfl rfl rfl (by decide) (by decide) (by decide) (by decide) (by decide) (fun _ _ => rfl) (by decide) (Nat.le_of_ble_eq_true rfl) dX7_copyFrom_51 (fun H locs hP hD hS => ?_)
  have hP : va_P D vwCl (w_X7X7 cI cJ cZ cS st_A st_talls_A st_pairs_A st2_A st2_talls_A st2_pairs_A st2_rows st2_columns st2_rise (va_cpy st2_talls st_talls 0 0 8) (va_cpy st2_pairs st_pairs 0 0 64) st_changed st2_rows st2_columns st2_rise st2_talls st2_pairs st2_changed) H := hP
  have hD : va_D A (w_X7X7 cI cJ cZ cS st_A st_talls_A st_pairs_A st2_A st2_talls_A st2_pairs_A st2_rows st2_columns st2_rise (va_cpy st2_talls st_talls 0 0 8) (va_cpy st2_pairs st_pairs 0 0 64) st_changed st2_rows st2_columns st2_rise st2_talls st2_pairs st2_changed) := hD
  refine lv_aload_n (pc := 54) hx hb dX7_copyFrom_54 rfl (lv_at hl 0 rfl) ?_
  refine lv_iconst (pc := 55) (v := (1 : Int32)) hx hb dX7_copyFrom_55 (by decide) ?_
  refine va_put (pc := 56) (D := D) (ci := 7) (v := .int (1 : Int32)) (ty := .boolean) (C := RX7) (T := TX7) (N := 6) hx hb hts inG7 tyX7 tyX7_ok nmX7 hown hK hP hD hS 0 rfl rfl 5 (by decide) (hts _ tw_119) (fun _ h9 => h9) rfl (by decide +kernel) rfl rfl (Nat.le_of_ble_eq_true rfl) dX7_copyFrom_56 (fun H locs hP hD hS => ?_)
  have hP : va_P D vwCl (w_X7X7 cI cJ cZ cS st_A st_talls_A st_pairs_A st2_A st2_talls_A st2_pairs_A st2_rows st2_columns st2_rise (va_cpy st2_talls st_talls 0 0 8) (va_cpy st2_pairs st_pairs 0 0 64) (1 : Int32) st2_rows st2_columns st2_rise st2_talls st2_pairs st2_changed) H := hP
  have hD : va_D A (w_X7X7 cI cJ cZ cS st_A st_talls_A st_pairs_A st2_A st2_talls_A st2_pairs_A st2_rows st2_columns st2_rise (va_cpy st2_talls st_talls 0 0 8) (va_cpy st2_pairs st_pairs 0 0 64) (1 : Int32) st2_rows st2_columns st2_rise st2_talls st2_pairs st2_changed) := hD
  cases hf
  exact hQ _ _ _ _ dX7_copyFrom_59 hP hD hS
theorem F_X7_places : CalF yX7_places cX7_places 1 (some .int) 0 := ⟨tw_289, tw_7, by decide +kernel⟩
set_option maxRecDepth 100000 in
set_option maxHeartbeats 4000000 in
theorem c_X7_places (l : Launch) (D : va_G) (cI cJ cZ cS : ClassId) (st_A st_talls_A st_pairs_A : Nat) (st_rows : Int32) (st_columns : Int32) (st_rise : Int32) (st_talls : Nat → Int32) (st_pairs : Nat → Int32) (st_changed : Int32) (r : Int32) (hf : f_X7_places st_rows st_columns = some r) : RoC l D cI cJ cZ cS yX7_places cX7_places 1 (some .int) 0 0 (w_X7 cI cJ cZ cS st_A st_talls_A st_pairs_A st_rows st_columns st_rise st_talls st_pairs st_changed) [.ref st_A] (some (.int r)) := by
  refine ro_in_i (own := RX7) (by decide +kernel) rfl (Nat.le_of_ble_eq_true rfl) ?_
  intro p e s m args below meth c ls Q E hQ hP hl
  obtain ⟨hx, hb, hml, hown, hts, hK, hN, hAO⟩ := id E
  have hl : lv_has ls 1 [(0, .ref st_A)] := hl
  unfold f_X7_places at hf
  refine lv_aload_n (pc := 0) hx hb dX7_places_0 rfl (lv_at hl 0 rfl) ?_
  refine va_get (pc := 1) (D := D) (ci := 7) (v := .int st_rows) (C := RX7) (T := TX7) (N := 6) hx hb hts inG7 hown hK hP 0 rfl rfl 0 (by decide) (hts _ tw_111) (fun _ h9 => h9) rfl dX7_places_1 ?_
  refine lv_aload_n (pc := 4) hx hb dX7_places_4 rfl (lv_at hl 0 rfl) ?_
  refine va_get (pc := 5) (D := D) (ci := 7) (v := .int st_columns) (C := RX7) (T := TX7) (N := 6) hx hb hts inG7 hown hK hP 0 rfl rfl 1 (by decide) (hts _ tw_113) (fun _ h9 => h9) rfl dX7_places_5 ?_
  refine lv_imul (pc := 8) hx hb dX7_places_8 ?_
  exact hQ _ _ _ dX7_places_9 hf
theorem F_X7_tallOf : CalF yX7_tallOf cX7_tallOf 2 (some .int) 1 := ⟨tw_696, tw_7, by decide +kernel⟩
set_option maxRecDepth 100000 in
set_option maxHeartbeats 4000000 in
theorem c_X7_tallOf (l : Launch) (D : va_G) (cI cJ cZ cS : ClassId) (st_A st_talls_A st_pairs_A : Nat) (st_rows : Int32) (st_columns : Int32) (st_rise : Int32) (st_talls : Nat → Int32) (st_pairs : Nat → Int32) (st_changed : Int32) (p1 : Int32) (r : Int32) (hf : f_X7_tallOf st_talls p1 = some r) : RoC l D cI cJ cZ cS yX7_tallOf cX7_tallOf 2 (some .int) 0 0 (w_X7 cI cJ cZ cS st_A st_talls_A st_pairs_A st_rows st_columns st_rise st_talls st_pairs st_changed) [.ref st_A, .int p1] (some (.int r)) := by
  refine ro_in_i (own := RX7) (by decide +kernel) rfl (Nat.le_of_ble_eq_true rfl) ?_
  intro p e s m args below meth c ls Q E hQ hP hl
  obtain ⟨hx, hb, hml, hown, hts, hK, hN, hAO⟩ := id E
  have hl : lv_has ls 2 [(0, .ref st_A), (1, .int p1)] := hl
  unfold f_X7_tallOf at hf
  refine lv_aload_n (pc := 0) hx hb dX7_tallOf_0 rfl (lv_at hl 0 rfl) ?_
  refine va_get (pc := 1) (D := D) (ci := 7) (v := .ref st_talls_A) (C := RX7) (T := TX7) (N := 6) hx hb hts inG7 hown hK hP 0 rfl rfl 3 (by decide) (hts _ tw_117) (fun _ h9 => h9) rfl dX7_tallOf_1 ?_
  refine lv_iload_n (pc := 4) hx hb dX7_tallOf_4 rfl (lv_at hl 1 rfl) ?_
  refine r_iald (pc := 5) hx hb hK hP 1 0 rfl rfl hf dX7_tallOf_5 (fun v1 hf => ?_)
  exact hQ _ _ _ dX7_tallOf_6 hf
theorem F_X7_build : CalF yX7_build cX7_build 3 (some .int) 2 := ⟨tw_556, tw_7, by decide +kernel⟩
set_option maxRecDepth 100000 in
set_option maxHeartbeats 4000000 in
theorem c_X7_build (l : Launch) (D : va_G) (cI cJ cZ cS : ClassId) (st_A st_talls_A st_pairs_A : Nat) (st_rows : Int32) (st_columns : Int32) (st_rise : Int32) (st_talls : Nat → Int32) (st_pairs : Nat → Int32) (st_changed : Int32) (p1 : Int32) (p2 : Int32) (sz : Nat) (r : Int32) (r_st_rows : Int32) (r_st_columns : Int32) (r_st_changed : Int32) (hf : f_X7_build p1 p2 = some (r, r_st_rows, r_st_columns, r_st_changed)) : RwC l D cI cJ cZ cS yX7_build cX7_build 3 (some .int) 1 20 (w_X7 cI cJ cZ cS st_A st_talls_A st_pairs_A st_rows st_columns st_rise st_talls st_pairs st_changed) sz [.ref st_A, .int p1, .int p2] (some (.int r)) (w_X7 cI cJ cZ cS st_A st_talls_A st_pairs_A r_st_rows r_st_columns st_rise st_talls st_pairs r_st_changed) := by
  refine rw_in_i (own := RX7) (by decide +kernel) rfl (Nat.le_of_ble_eq_true rfl) ?_
  intro p e s m args below meth c ls Q A E hA hQ hP hD hS hl
  obtain ⟨hx, hb, hml, hown, hts, hK, hN, hAO⟩ := id E
  have hl : lv_has ls 3 [(0, .ref st_A), (1, .int p1), (2, .int p2)] := hl
  unfold f_X7_build at hf
  obtain ⟨H, hH⟩ : ∃ H, H = s.heap := ⟨_, rfl⟩
  obtain ⟨locs, hlocs⟩ : ∃ L : List Loc, L = [] := ⟨_, rfl⟩
  rw [show W p l e (roR 1 20) s m args below meth c s.heap [] 0 0 Q (F0 m 0 ls []) = W p l e (roR 1 20) s m args below meth c H locs 0 0 Q (F0 m 0 ls []) by rw [hH, hlocs]]
  replace hS : va_S A s.heap H locs := by rw [hH, hlocs]; exact hS
  replace hP : va_P D vwCl (w_X7 cI cJ cZ cS st_A st_talls_A st_pairs_A st_rows st_columns st_rise st_talls st_pairs st_changed) H := by rw [hH]; exact hP
  clear hH hlocs
  refine lv_aload_n (pc := 0) hx hb dX7_build_0 rfl (lv_at hl 0 rfl) ?_
  refine lv_iload_n (pc := 1) hx hb dX7_build_1 rfl (lv_at hl 1 rfl) ?_
  refine va_put (pc := 2) (D := D) (ci := 7) (v := .int p1) (ty := .int) (C := RX7) (T := TX7) (N := 6) hx hb hts inG7 tyX7 tyX7_ok nmX7 hown hK hP hD hS 0 rfl rfl 0 (by decide) (hts _ tw_111) (fun _ h9 => h9) rfl (by decide +kernel) rfl rfl (Nat.le_of_ble_eq_true rfl) dX7_build_2 (fun H locs hP hD hS => ?_)
  have hP : va_P D vwCl (w_X7 cI cJ cZ cS st_A st_talls_A st_pairs_A p1 st_columns st_rise st_talls st_pairs st_changed) H := hP
  have hD : va_D A (w_X7 cI cJ cZ cS st_A st_talls_A st_pairs_A p1 st_columns st_rise st_talls st_pairs st_changed) := hD
  refine lv_aload_n (pc := 5) hx hb dX7_build_5 rfl (lv_at hl 0 rfl) ?_
  refine lv_iload_n (pc := 6) hx hb dX7_build_6 rfl (lv_at hl 2 rfl) ?_
  refine va_put (pc := 7) (D := D) (ci := 7) (v := .int p2) (ty := .int) (C := RX7) (T := TX7) (N := 6) hx hb hts inG7 tyX7 tyX7_ok nmX7 hown hK hP hD hS 0 rfl rfl 1 (by decide) (hts _ tw_113) (fun _ h9 => h9) rfl (by decide +kernel) rfl rfl (Nat.le_of_ble_eq_true rfl) dX7_build_7 (fun H locs hP hD hS => ?_)
  have hP : va_P D vwCl (w_X7 cI cJ cZ cS st_A st_talls_A st_pairs_A p1 p2 st_rise st_talls st_pairs st_changed) H := hP
  have hD : va_D A (w_X7 cI cJ cZ cS st_A st_talls_A st_pairs_A p1 p2 st_rise st_talls st_pairs st_changed) := hD
  refine lv_aload_n (pc := 10) hx hb dX7_build_10 rfl (lv_at hl 0 rfl) ?_
  refine lv_iconst (pc := 11) (v := (1 : Int32)) hx hb dX7_build_11 (by decide) ?_
  refine va_put (pc := 12) (D := D) (ci := 7) (v := .int (1 : Int32)) (ty := .boolean) (C := RX7) (T := TX7) (N := 6) hx hb hts inG7 tyX7 tyX7_ok nmX7 hown hK hP hD hS 0 rfl rfl 5 (by decide) (hts _ tw_119) (fun _ h9 => h9) rfl (by decide +kernel) rfl rfl (Nat.le_of_ble_eq_true rfl) dX7_build_12 (fun H locs hP hD hS => ?_)
  have hP : va_P D vwCl (w_X7 cI cJ cZ cS st_A st_talls_A st_pairs_A p1 p2 st_rise st_talls st_pairs (1 : Int32)) H := hP
  have hD : va_D A (w_X7 cI cJ cZ cS st_A st_talls_A st_pairs_A p1 p2 st_rise st_talls st_pairs (1 : Int32)) := hD
  refine lv_aload_n (pc := 15) hx hb dX7_build_15 rfl (lv_at hl 0 rfl) ?_
  obtain ⟨v1, hv16, hf⟩ := bd_e hf
  refine ro_Vi (pc := 16) (As := []) (rest := []) E (c_X7_places l D cI cJ cZ cS st_A st_talls_A st_pairs_A p1 p2 st_rise st_talls st_pairs (1 : Int32) v1 hv16) F_X7_places rfl rfl tw_557 tw_287 tw_288 hP ⟨by decide, by decide⟩ rfl hl.1 (Nat.le_of_ble_eq_true rfl) ⟨by decide, by decide⟩ rfl dX7_build_16 ?_
  cases hf
  exact hQ _ _ _ _ _ dX7_build_19 rfl hP hD hS
theorem F_X7_changeRise : CalF yX7_changeRise cX7_changeRise 3 (some .int) 1 := ⟨tw_565, tw_7, by decide +kernel⟩
set_option maxRecDepth 100000 in
set_option maxHeartbeats 4000000 in
theorem c_X7_changeRise (l : Launch) (D : va_G) (cI cJ cZ cS : ClassId) (st_A st_talls_A st_pairs_A : Nat) (st_rows : Int32) (st_columns : Int32) (st_rise : Int32) (st_talls : Nat → Int32) (st_pairs : Nat → Int32) (st_changed : Int32) (p1 : Int32) (sz : Nat) (r : Int32) (r_st_rise : Int32) (r_st_changed : Int32) (hf : f_X7_changeRise st_rise p1 = some (r, r_st_rise, r_st_changed)) : RwC l D cI cJ cZ cS yX7_changeRise cX7_changeRise 3 (some .int) 0 0 (w_X7 cI cJ cZ cS st_A st_talls_A st_pairs_A st_rows st_columns st_rise st_talls st_pairs st_changed) sz [.ref st_A, .int p1] (some (.int r)) (w_X7 cI cJ cZ cS st_A st_talls_A st_pairs_A st_rows st_columns r_st_rise st_talls st_pairs r_st_changed) := by
  refine rw_in_i (own := RX7) (by decide +kernel) rfl (Nat.le_of_ble_eq_true rfl) ?_
  intro p e s m args below meth c ls Q A E hA hQ hP hD hS hl
  obtain ⟨hx, hb, hml, hown, hts, hK, hN, hAO⟩ := id E
  have hl : lv_has ls 3 [(0, .ref st_A), (1, .int p1)] := hl
  unfold f_X7_changeRise at hf
  obtain ⟨H, hH⟩ : ∃ H, H = s.heap := ⟨_, rfl⟩
  obtain ⟨locs, hlocs⟩ : ∃ L : List Loc, L = [] := ⟨_, rfl⟩
  rw [show W p l e (roR 0 0) s m args below meth c s.heap [] 0 0 Q (F0 m 0 ls []) = W p l e (roR 0 0) s m args below meth c H locs 0 0 Q (F0 m 0 ls []) by rw [hH, hlocs]]
  replace hS : va_S A s.heap H locs := by rw [hH, hlocs]; exact hS
  replace hP : va_P D vwCl (w_X7 cI cJ cZ cS st_A st_talls_A st_pairs_A st_rows st_columns st_rise st_talls st_pairs st_changed) H := by rw [hH]; exact hP
  clear hH hlocs
  refine lv_aload_n (pc := 0) hx hb dX7_changeRise_0 rfl (lv_at hl 0 rfl) ?_
  refine va_get (pc := 1) (D := D) (ci := 7) (v := .int st_rise) (C := RX7) (T := TX7) (N := 6) hx hb hts inG7 hown hK hP 0 rfl rfl 2 (by decide) (hts _ tw_115) (fun _ h9 => h9) rfl dX7_changeRise_1 ?_
  refine lv_istore_n (pc := 4) (lv' := [(2, .int st_rise), (0, .ref st_A), (1, .int p1)]) hx hb dX7_changeRise_4 rfl hl (by decide) rfl (fun ls hl => ?_)
  refine lv_aload_n (pc := 5) hx hb dX7_changeRise_5 rfl (lv_at hl 1 rfl) ?_
  refine lv_iload_n (pc := 6) hx hb dX7_changeRise_6 rfl (lv_at hl 2 rfl) ?_
  refine va_put (pc := 7) (D := D) (ci := 7) (v := .int p1) (ty := .int) (C := RX7) (T := TX7) (N := 6) hx hb hts inG7 tyX7 tyX7_ok nmX7 hown hK hP hD hS 0 rfl rfl 2 (by decide) (hts _ tw_115) (fun _ h9 => h9) rfl (by decide +kernel) rfl rfl (Nat.le_of_ble_eq_true rfl) dX7_changeRise_7 (fun H locs hP hD hS => ?_)
  have hP : va_P D vwCl (w_X7 cI cJ cZ cS st_A st_talls_A st_pairs_A st_rows st_columns p1 st_talls st_pairs st_changed) H := hP
  have hD : va_D A (w_X7 cI cJ cZ cS st_A st_talls_A st_pairs_A st_rows st_columns p1 st_talls st_pairs st_changed) := hD
  refine lv_aload_n (pc := 10) hx hb dX7_changeRise_10 rfl (lv_at hl 1 rfl) ?_
  refine lv_iconst (pc := 11) (v := (1 : Int32)) hx hb dX7_changeRise_11 (by decide) ?_
  refine va_put (pc := 12) (D := D) (ci := 7) (v := .int (1 : Int32)) (ty := .boolean) (C := RX7) (T := TX7) (N := 6) hx hb hts inG7 tyX7 tyX7_ok nmX7 hown hK hP hD hS 0 rfl rfl 5 (by decide) (hts _ tw_119) (fun _ h9 => h9) rfl (by decide +kernel) rfl rfl (Nat.le_of_ble_eq_true rfl) dX7_changeRise_12 (fun H locs hP hD hS => ?_)
  have hP : va_P D vwCl (w_X7 cI cJ cZ cS st_A st_talls_A st_pairs_A st_rows st_columns p1 st_talls st_pairs (1 : Int32)) H := hP
  have hD : va_D A (w_X7 cI cJ cZ cS st_A st_talls_A st_pairs_A st_rows st_columns p1 st_talls st_pairs (1 : Int32)) := hD
  refine lv_iload_n (pc := 15) hx hb dX7_changeRise_15 rfl (lv_at hl 0 rfl) ?_
  cases hf
  exact hQ _ _ _ _ _ dX7_changeRise_16 rfl hP hD hS
theorem F_X7_changeTall : CalF yX7_changeTall cX7_changeTall 4 (some .int) 2 := ⟨tw_569, tw_7, by decide +kernel⟩
set_option maxRecDepth 100000 in
set_option maxHeartbeats 4000000 in
theorem c_X7_changeTall (l : Launch) (D : va_G) (cI cJ cZ cS : ClassId) (st_A st_talls_A st_pairs_A : Nat) (st_rows : Int32) (st_columns : Int32) (st_rise : Int32) (st_talls : Nat → Int32) (st_pairs : Nat → Int32) (st_changed : Int32) (p1 : Int32) (p2 : Int32) (sz : Nat) (r : Int32) (r_st_changed : Int32) (r_st_talls : Nat → Int32) (hf : f_X7_changeTall st_talls p1 p2 = some (r, r_st_changed, r_st_talls)) : RwC l D cI cJ cZ cS yX7_changeTall cX7_changeTall 4 (some .int) 0 0 (w_X7 cI cJ cZ cS st_A st_talls_A st_pairs_A st_rows st_columns st_rise st_talls st_pairs st_changed) sz [.ref st_A, .int p1, .int p2] (some (.int r)) (w_X7 cI cJ cZ cS st_A st_talls_A st_pairs_A st_rows st_columns st_rise r_st_talls st_pairs r_st_changed) := by
  refine rw_in_i (own := RX7) (by decide +kernel) rfl (Nat.le_of_ble_eq_true rfl) ?_
  intro p e s m args below meth c ls Q A E hA hQ hP hD hS hl
  obtain ⟨hx, hb, hml, hown, hts, hK, hN, hAO⟩ := id E
  have hl : lv_has ls 4 [(0, .ref st_A), (1, .int p1), (2, .int p2)] := hl
  unfold f_X7_changeTall at hf
  obtain ⟨H, hH⟩ : ∃ H, H = s.heap := ⟨_, rfl⟩
  obtain ⟨locs, hlocs⟩ : ∃ L : List Loc, L = [] := ⟨_, rfl⟩
  rw [show W p l e (roR 0 0) s m args below meth c s.heap [] 0 0 Q (F0 m 0 ls []) = W p l e (roR 0 0) s m args below meth c H locs 0 0 Q (F0 m 0 ls []) by rw [hH, hlocs]]
  replace hS : va_S A s.heap H locs := by rw [hH, hlocs]; exact hS
  replace hP : va_P D vwCl (w_X7 cI cJ cZ cS st_A st_talls_A st_pairs_A st_rows st_columns st_rise st_talls st_pairs st_changed) H := by rw [hH]; exact hP
  clear hH hlocs
  refine lv_aload_n (pc := 0) hx hb dX7_changeTall_0 rfl (lv_at hl 0 rfl) ?_
  refine va_get (pc := 1) (D := D) (ci := 7) (v := .ref st_talls_A) (C := RX7) (T := TX7) (N := 6) hx hb hts inG7 hown hK hP 0 rfl rfl 3 (by decide) (hts _ tw_117) (fun _ h9 => h9) rfl dX7_changeTall_1 ?_
  refine lv_iload_n (pc := 4) hx hb dX7_changeTall_4 rfl (lv_at hl 1 rfl) ?_
  refine r_iald (pc := 5) hx hb hK hP 1 0 rfl rfl hf dX7_changeTall_5 (fun v1 hf => ?_)
  refine lv_istore_n (pc := 6) (lv' := [(3, .int v1), (0, .ref st_A), (1, .int p1), (2, .int p2)]) hx hb dX7_changeTall_6 rfl hl (by decide) rfl (fun ls hl => ?_)
  refine lv_aload_n (pc := 7) hx hb dX7_changeTall_7 rfl (lv_at hl 1 rfl) ?_
  refine va_get (pc := 8) (D := D) (ci := 7) (v := .ref st_talls_A) (C := RX7) (T := TX7) (N := 6) hx hb hts inG7 hown hK hP 0 rfl rfl 3 (by decide) (hts _ tw_117) (fun _ h9 => h9) rfl dX7_changeTall_8 ?_
  refine lv_iload_n (pc := 11) hx hb dX7_changeTall_11 rfl (lv_at hl 2 rfl) ?_
  refine lv_iload_n (pc := 12) hx hb dX7_changeTall_12 rfl (lv_at hl 3 rfl) ?_
  refine r_iast (pc := 13) hx hb hK hP hD hS 1 0 rfl rfl hf dX7_changeTall_13 (fun st_talls_2 H locs hf hP hD hS => ?_)
  have hP : va_P D vwCl (w_X7 cI cJ cZ cS st_A st_talls_A st_pairs_A st_rows st_columns st_rise st_talls_2 st_pairs st_changed) H := hP
  have hD : va_D A (w_X7 cI cJ cZ cS st_A st_talls_A st_pairs_A st_rows st_columns st_rise st_talls_2 st_pairs st_changed) := hD
  refine lv_aload_n (pc := 14) hx hb dX7_changeTall_14 rfl (lv_at hl 1 rfl) ?_
  refine lv_iconst (pc := 15) (v := (1 : Int32)) hx hb dX7_changeTall_15 (by decide) ?_
  refine va_put (pc := 16) (D := D) (ci := 7) (v := .int (1 : Int32)) (ty := .boolean) (C := RX7) (T := TX7) (N := 6) hx hb hts inG7 tyX7 tyX7_ok nmX7 hown hK hP hD hS 0 rfl rfl 5 (by decide) (hts _ tw_119) (fun _ h9 => h9) rfl (by decide +kernel) rfl rfl (Nat.le_of_ble_eq_true rfl) dX7_changeTall_16 (fun H locs hP hD hS => ?_)
  have hP : va_P D vwCl (w_X7 cI cJ cZ cS st_A st_talls_A st_pairs_A st_rows st_columns st_rise st_talls_2 st_pairs (1 : Int32)) H := hP
  have hD : va_D A (w_X7 cI cJ cZ cS st_A st_talls_A st_pairs_A st_rows st_columns st_rise st_talls_2 st_pairs (1 : Int32)) := hD
  refine lv_iload_n (pc := 19) hx hb dX7_changeTall_19 rfl (lv_at hl 0 rfl) ?_
  cases hf
  exact hQ _ _ _ _ _ dX7_changeTall_20 rfl hP hD hS
theorem F_X7_changePair : CalF yX7_changePair cX7_changePair 5 (some .int) 3 := ⟨tw_577, tw_7, by decide +kernel⟩
set_option maxRecDepth 100000 in
set_option maxHeartbeats 4000000 in
theorem c_X7_changePair (l : Launch) (D : va_G) (cI cJ cZ cS : ClassId) (st_A st_talls_A st_pairs_A : Nat) (st_rows : Int32) (st_columns : Int32) (st_rise : Int32) (st_talls : Nat → Int32) (st_pairs : Nat → Int32) (st_changed : Int32) (p1 : Int32) (p2 : Int32) (p3 : Int32) (sz : Nat) (r : Int32) (r_st_changed : Int32) (r_st_pairs : Nat → Int32) (hf : f_X7_changePair st_pairs p1 p2 p3 = some (r, r_st_changed, r_st_pairs)) : RwC l D cI cJ cZ cS yX7_changePair cX7_changePair 5 (some .int) 0 0 (w_X7 cI cJ cZ cS st_A st_talls_A st_pairs_A st_rows st_columns st_rise st_talls st_pairs st_changed) sz [.ref st_A, .int p1, .int p2, .int p3] (some (.int r)) (w_X7 cI cJ cZ cS st_A st_talls_A st_pairs_A st_rows st_columns st_rise st_talls r_st_pairs r_st_changed) := by
  refine rw_in_i (own := RX7) (by decide +kernel) rfl (Nat.le_of_ble_eq_true rfl) ?_
  intro p e s m args below meth c ls Q A E hA hQ hP hD hS hl
  obtain ⟨hx, hb, hml, hown, hts, hK, hN, hAO⟩ := id E
  have hl : lv_has ls 5 [(0, .ref st_A), (1, .int p1), (2, .int p2), (3, .int p3)] := hl
  unfold f_X7_changePair at hf
  obtain ⟨H, hH⟩ : ∃ H, H = s.heap := ⟨_, rfl⟩
  obtain ⟨locs, hlocs⟩ : ∃ L : List Loc, L = [] := ⟨_, rfl⟩
  rw [show W p l e (roR 0 0) s m args below meth c s.heap [] 0 0 Q (F0 m 0 ls []) = W p l e (roR 0 0) s m args below meth c H locs 0 0 Q (F0 m 0 ls []) by rw [hH, hlocs]]
  replace hS : va_S A s.heap H locs := by rw [hH, hlocs]; exact hS
  replace hP : va_P D vwCl (w_X7 cI cJ cZ cS st_A st_talls_A st_pairs_A st_rows st_columns st_rise st_talls st_pairs st_changed) H := by rw [hH]; exact hP
  clear hH hlocs
  refine lv_aload_n (pc := 0) hx hb dX7_changePair_0 rfl (lv_at hl 0 rfl) ?_
  refine va_get (pc := 1) (D := D) (ci := 7) (v := .ref st_pairs_A) (C := RX7) (T := TX7) (N := 6) hx hb hts inG7 hown hK hP 0 rfl rfl 4 (by decide) (hts _ tw_118) (fun _ h9 => h9) rfl dX7_changePair_1 ?_
  refine lv_iload_n (pc := 4) hx hb dX7_changePair_4 rfl (lv_at hl 1 rfl) ?_
  refine lv_bipush (pc := 5) (v := (8 : Int32)) hx hb dX7_changePair_5 (by decide) ?_
  refine lv_imul (pc := 7) hx hb dX7_changePair_7 ?_
  refine lv_iload_n (pc := 8) hx hb dX7_changePair_8 rfl (lv_at hl 2 rfl) ?_
  refine lv_iadd (pc := 9) hx hb dX7_changePair_9 ?_
  refine r_iald (pc := 10) hx hb hK hP 2 0 rfl rfl hf dX7_changePair_10 (fun v1 hf => ?_)
  refine lv_istore (pc := 11) (lv' := [(4, .int v1), (0, .ref st_A), (1, .int p1), (2, .int p2), (3, .int p3)]) hx hb dX7_changePair_11 hl (by decide) rfl (fun ls hl => ?_)
  refine lv_aload_n (pc := 13) hx hb dX7_changePair_13 rfl (lv_at hl 1 rfl) ?_
  refine va_get (pc := 14) (D := D) (ci := 7) (v := .ref st_pairs_A) (C := RX7) (T := TX7) (N := 6) hx hb hts inG7 hown hK hP 0 rfl rfl 4 (by decide) (hts _ tw_118) (fun _ h9 => h9) rfl dX7_changePair_14 ?_
  refine lv_iload_n (pc := 17) hx hb dX7_changePair_17 rfl (lv_at hl 2 rfl) ?_
  refine lv_bipush (pc := 18) (v := (8 : Int32)) hx hb dX7_changePair_18 (by decide) ?_
  refine lv_imul (pc := 20) hx hb dX7_changePair_20 ?_
  refine lv_iload_n (pc := 21) hx hb dX7_changePair_21 rfl (lv_at hl 3 rfl) ?_
  refine lv_iadd (pc := 22) hx hb dX7_changePair_22 ?_
  refine lv_iload_n (pc := 23) hx hb dX7_changePair_23 rfl (lv_at hl 4 rfl) ?_
  refine r_iast (pc := 24) hx hb hK hP hD hS 2 0 rfl rfl hf dX7_changePair_24 (fun st_pairs_2 H locs hf hP hD hS => ?_)
  have hP : va_P D vwCl (w_X7 cI cJ cZ cS st_A st_talls_A st_pairs_A st_rows st_columns st_rise st_talls st_pairs_2 st_changed) H := hP
  have hD : va_D A (w_X7 cI cJ cZ cS st_A st_talls_A st_pairs_A st_rows st_columns st_rise st_talls st_pairs_2 st_changed) := hD
  refine lv_aload_n (pc := 25) hx hb dX7_changePair_25 rfl (lv_at hl 1 rfl) ?_
  refine va_get (pc := 26) (D := D) (ci := 7) (v := .ref st_pairs_A) (C := RX7) (T := TX7) (N := 6) hx hb hts inG7 hown hK hP 0 rfl rfl 4 (by decide) (hts _ tw_118) (fun _ h9 => h9) rfl dX7_changePair_26 ?_
  refine lv_iload_n (pc := 29) hx hb dX7_changePair_29 rfl (lv_at hl 3 rfl) ?_
  refine lv_bipush (pc := 30) (v := (8 : Int32)) hx hb dX7_changePair_30 (by decide) ?_
  refine lv_imul (pc := 32) hx hb dX7_changePair_32 ?_
  refine lv_iload_n (pc := 33) hx hb dX7_changePair_33 rfl (lv_at hl 2 rfl) ?_
  refine lv_iadd (pc := 34) hx hb dX7_changePair_34 ?_
  refine lv_iload_n (pc := 35) hx hb dX7_changePair_35 rfl (lv_at hl 4 rfl) ?_
  refine r_iast (pc := 36) hx hb hK hP hD hS 2 0 rfl rfl hf dX7_changePair_36 (fun st_pairs_3 H locs hf hP hD hS => ?_)
  have hP : va_P D vwCl (w_X7 cI cJ cZ cS st_A st_talls_A st_pairs_A st_rows st_columns st_rise st_talls st_pairs_3 st_changed) H := hP
  have hD : va_D A (w_X7 cI cJ cZ cS st_A st_talls_A st_pairs_A st_rows st_columns st_rise st_talls st_pairs_3 st_changed) := hD
  refine lv_aload_n (pc := 37) hx hb dX7_changePair_37 rfl (lv_at hl 1 rfl) ?_
  refine lv_iconst (pc := 38) (v := (1 : Int32)) hx hb dX7_changePair_38 (by decide) ?_
  refine va_put (pc := 39) (D := D) (ci := 7) (v := .int (1 : Int32)) (ty := .boolean) (C := RX7) (T := TX7) (N := 6) hx hb hts inG7 tyX7 tyX7_ok nmX7 hown hK hP hD hS 0 rfl rfl 5 (by decide) (hts _ tw_119) (fun _ h9 => h9) rfl (by decide +kernel) rfl rfl (Nat.le_of_ble_eq_true rfl) dX7_changePair_39 (fun H locs hP hD hS => ?_)
  have hP : va_P D vwCl (w_X7 cI cJ cZ cS st_A st_talls_A st_pairs_A st_rows st_columns st_rise st_talls st_pairs_3 (1 : Int32)) H := hP
  have hD : va_D A (w_X7 cI cJ cZ cS st_A st_talls_A st_pairs_A st_rows st_columns st_rise st_talls st_pairs_3 (1 : Int32)) := hD
  refine lv_iload (pc := 42) hx hb dX7_changePair_42 (lv_at hl 0 rfl) ?_
  cases hf
  exact hQ _ _ _ _ _ dX7_changePair_44 rfl hP hD hS
theorem F_X7_rowOf : CalF yX7_rowOf cX7_rowOf 2 (some .int) 1 := ⟨tw_609, tw_7, by decide +kernel⟩
set_option maxRecDepth 100000 in
set_option maxHeartbeats 4000000 in
theorem c_X7_rowOf (l : Launch) (D : va_G) (cI cJ cZ cS : ClassId) (st_A st_talls_A st_pairs_A : Nat) (st_rows : Int32) (st_columns : Int32) (st_rise : Int32) (st_talls : Nat → Int32) (st_pairs : Nat → Int32) (st_changed : Int32) (p1 : Int32) (r : Int32) (hf : f_X7_rowOf st_columns p1 = some r) : RoC l D cI cJ cZ cS yX7_rowOf cX7_rowOf 2 (some .int) 0 0 (w_X7 cI cJ cZ cS st_A st_talls_A st_pairs_A st_rows st_columns st_rise st_talls st_pairs st_changed) [.ref st_A, .int p1] (some (.int r)) := by
  refine ro_in_i (own := RX7) (by decide +kernel) rfl (Nat.le_of_ble_eq_true rfl) ?_
  intro p e s m args below meth c ls Q E hQ hP hl
  obtain ⟨hx, hb, hml, hown, hts, hK, hN, hAO⟩ := id E
  have hl : lv_has ls 2 [(0, .ref st_A), (1, .int p1)] := hl
  unfold f_X7_rowOf at hf
  refine lv_aload_n (pc := 0) hx hb dX7_rowOf_0 rfl (lv_at hl 0 rfl) ?_
  refine va_get (pc := 1) (D := D) (ci := 7) (v := .int st_columns) (C := RX7) (T := TX7) (N := 6) hx hb hts inG7 hown hK hP 0 rfl rfl 1 (by decide) (hts _ tw_113) (fun _ h9 => h9) rfl dX7_rowOf_1 ?_
  refine lv_iconst (pc := 4) (v := (1 : Int32)) hx hb dX7_rowOf_4 (by decide) ?_
  refine r_ic_ge (pc := 5) (tgt := 12) hx hb dX7_rowOf_5 (by decide) hf (fun hf => ?_) (fun hf => ?_)
  · refine lv_iload_n (pc := 12) hx hb dX7_rowOf_12 rfl (lv_at hl 1 rfl) ?_
    refine lv_aload_n (pc := 13) hx hb dX7_rowOf_13 rfl (lv_at hl 0 rfl) ?_
    refine va_get (pc := 14) (D := D) (ci := 7) (v := .int st_columns) (C := RX7) (T := TX7) (N := 6) hx hb hts inG7 hown hK hP 0 rfl rfl 1 (by decide) (hts _ tw_113) (fun _ h9 => h9) rfl dX7_rowOf_14 ?_
    refine r_idiv (pc := 17) hx hb hf dX7_rowOf_17 (fun v1 hf => ?_)
    exact hQ _ _ _ dX7_rowOf_18 hf
  · refine lv_iconst (pc := 8) (v := (0 : Int32)) hx hb dX7_rowOf_8 (by decide) ?_
    refine lv_goto (pc := 9) (tgt := 18) hx hb dX7_rowOf_9 (by decide) ?_
    exact hQ _ _ _ dX7_rowOf_18 hf
theorem F_X7_columnOf : CalF yX7_columnOf cX7_columnOf 2 (some .int) 1 := ⟨tw_605, tw_7, by decide +kernel⟩
set_option maxRecDepth 100000 in
set_option maxHeartbeats 4000000 in
theorem c_X7_columnOf (l : Launch) (D : va_G) (cI cJ cZ cS : ClassId) (st_A st_talls_A st_pairs_A : Nat) (st_rows : Int32) (st_columns : Int32) (st_rise : Int32) (st_talls : Nat → Int32) (st_pairs : Nat → Int32) (st_changed : Int32) (p1 : Int32) (r : Int32) (hf : f_X7_columnOf st_columns p1 = some r) : RoC l D cI cJ cZ cS yX7_columnOf cX7_columnOf 2 (some .int) 0 0 (w_X7 cI cJ cZ cS st_A st_talls_A st_pairs_A st_rows st_columns st_rise st_talls st_pairs st_changed) [.ref st_A, .int p1] (some (.int r)) := by
  refine ro_in_i (own := RX7) (by decide +kernel) rfl (Nat.le_of_ble_eq_true rfl) ?_
  intro p e s m args below meth c ls Q E hQ hP hl
  obtain ⟨hx, hb, hml, hown, hts, hK, hN, hAO⟩ := id E
  have hl : lv_has ls 2 [(0, .ref st_A), (1, .int p1)] := hl
  unfold f_X7_columnOf at hf
  refine lv_aload_n (pc := 0) hx hb dX7_columnOf_0 rfl (lv_at hl 0 rfl) ?_
  refine va_get (pc := 1) (D := D) (ci := 7) (v := .int st_columns) (C := RX7) (T := TX7) (N := 6) hx hb hts inG7 hown hK hP 0 rfl rfl 1 (by decide) (hts _ tw_113) (fun _ h9 => h9) rfl dX7_columnOf_1 ?_
  refine lv_iconst (pc := 4) (v := (1 : Int32)) hx hb dX7_columnOf_4 (by decide) ?_
  refine r_ic_ge (pc := 5) (tgt := 12) hx hb dX7_columnOf_5 (by decide) hf (fun hf => ?_) (fun hf => ?_)
  · refine lv_iload_n (pc := 12) hx hb dX7_columnOf_12 rfl (lv_at hl 1 rfl) ?_
    refine lv_aload_n (pc := 13) hx hb dX7_columnOf_13 rfl (lv_at hl 0 rfl) ?_
    refine va_get (pc := 14) (D := D) (ci := 7) (v := .int st_columns) (C := RX7) (T := TX7) (N := 6) hx hb hts inG7 hown hK hP 0 rfl rfl 1 (by decide) (hts _ tw_113) (fun _ h9 => h9) rfl dX7_columnOf_14 ?_
    refine r_irem (pc := 17) hx hb hf dX7_columnOf_17 (fun v1 hf => ?_)
    exact hQ _ _ _ dX7_columnOf_18 hf
  · refine lv_iconst (pc := 8) (v := (0 : Int32)) hx hb dX7_columnOf_8 (by decide) ?_
    refine lv_goto (pc := 9) (tgt := 18) hx hb dX7_columnOf_9 (by decide) ?_
    exact hQ _ _ _ dX7_columnOf_18 hf
theorem F_X7_isHidden : CalF yX7_isHidden cX7_isHidden 7 (some .boolean) 4 := ⟨tw_601, tw_7, by decide +kernel⟩
set_option maxRecDepth 100000 in
set_option maxHeartbeats 4000000 in
theorem c_X7_isHidden (l : Launch) (D : va_G) (cI cJ cZ cS : ClassId) (st_A st_talls_A st_pairs_A : Nat) (st_rows : Int32) (st_columns : Int32) (st_rise : Int32) (st_talls : Nat → Int32) (st_pairs : Nat → Int32) (st_changed : Int32) (p1 : Int32) (p2 : Int32) (p3 : Int32) (p4 : Int32) (r : Int32) (hf : f_X7_isHidden st_columns st_rise st_talls p1 p2 p3 p4 = some r) : RoC l D cI cJ cZ cS yX7_isHidden cX7_isHidden 7 (some .boolean) 1 21 (w_X7 cI cJ cZ cS st_A st_talls_A st_pairs_A st_rows st_columns st_rise st_talls st_pairs st_changed) [.ref st_A, .int p1, .int p2, .int p3, .int p4] (some (.int r)) := by
  refine ro_in_z (own := RX7) (by decide +kernel) rfl (Nat.le_of_ble_eq_true rfl) ?_
  intro p e s m args below meth c ls Q E hQ hP hl
  obtain ⟨hx, hb, hml, hown, hts, hK, hN, hAO⟩ := id E
  have hl : lv_has ls 7 [(0, .ref st_A), (1, .int p1), (2, .int p2), (3, .int p3), (4, .int p4)] := hl
  unfold f_X7_isHidden at hf
  refine lv_aload_n (pc := 0) hx hb dX7_isHidden_0 rfl (lv_at hl 0 rfl) ?_
  refine lv_iload_n (pc := 1) hx hb dX7_isHidden_1 rfl (lv_at hl 2 rfl) ?_
  obtain ⟨v1, hv2, hf⟩ := bd_e hf
  refine ro_Vi (pc := 2) (As := [.int p2]) (rest := []) E (c_X7_columnOf l D cI cJ cZ cS st_A st_talls_A st_pairs_A st_rows st_columns st_rise st_talls st_pairs st_changed p2 v1 hv2) F_X7_columnOf rfl rfl tw_602 tw_604 tp_15 hP ⟨by decide, by decide⟩ rfl hl.1 (Nat.le_of_ble_eq_true rfl) ⟨by decide, by decide⟩ rfl dX7_isHidden_2 ?_
  refine lv_aload_n (pc := 5) hx hb dX7_isHidden_5 rfl (lv_at hl 0 rfl) ?_
  refine lv_iload (pc := 6) hx hb dX7_isHidden_6 (lv_at hl 4 rfl) ?_
  obtain ⟨v2, hv8, hf⟩ := bd_e hf
  refine ro_Vi (pc := 8) (As := [.int p4]) (rest := [.int v1]) E (c_X7_columnOf l D cI cJ cZ cS st_A st_talls_A st_pairs_A st_rows st_columns st_rise st_talls st_pairs st_changed p4 v2 hv8) F_X7_columnOf rfl rfl tw_602 tw_604 tp_15 hP ⟨by decide, by decide⟩ rfl hl.1 (Nat.le_of_ble_eq_true rfl) ⟨by decide, by decide⟩ rfl dX7_isHidden_8 ?_
  refine r_ic_eq (pc := 11) (tgt := 16) hx hb dX7_isHidden_11 (by decide) hf (fun hf => ?_) (fun hf => ?_)
  · refine lv_aload_n (pc := 16) hx hb dX7_isHidden_16 rfl (lv_at hl 0 rfl) ?_
    refine lv_iload_n (pc := 17) hx hb dX7_isHidden_17 rfl (lv_at hl 2 rfl) ?_
    obtain ⟨v3, hv18, hf⟩ := bd_e hf
    refine ro_Vi (pc := 18) (As := [.int p2]) (rest := []) E (c_X7_rowOf l D cI cJ cZ cS st_A st_talls_A st_pairs_A st_rows st_columns st_rise st_talls st_pairs st_changed p2 v3 hv18) F_X7_rowOf rfl rfl tw_606 tw_608 tp_16 hP ⟨by decide, by decide⟩ rfl hl.1 (Nat.le_of_ble_eq_true rfl) ⟨by decide, by decide⟩ rfl dX7_isHidden_18 ?_
    refine lv_istore (pc := 21) (lv' := [(5, .int v3), (0, .ref st_A), (1, .int p1), (2, .int p2), (3, .int p3), (4, .int p4)]) hx hb dX7_isHidden_21 hl (by decide) rfl (fun ls hl => ?_)
    refine lv_aload_n (pc := 23) hx hb dX7_isHidden_23 rfl (lv_at hl 1 rfl) ?_
    refine lv_iload (pc := 24) hx hb dX7_isHidden_24 (lv_at hl 5 rfl) ?_
    obtain ⟨v4, hv26, hf⟩ := bd_e hf
    refine ro_Vi (pc := 26) (As := [.int p4]) (rest := []) E (c_X7_rowOf l D cI cJ cZ cS st_A st_talls_A st_pairs_A st_rows st_columns st_rise st_talls st_pairs st_changed p4 v4 hv26) F_X7_rowOf rfl rfl tw_606 tw_608 tp_16 hP ⟨by decide, by decide⟩ rfl hl.1 (Nat.le_of_ble_eq_true rfl) ⟨by decide, by decide⟩ rfl dX7_isHidden_26 ?_
    refine lv_istore (pc := 29) (lv' := [(6, .int v4), (5, .int v3), (0, .ref st_A), (1, .int p1), (2, .int p2), (3, .int p3), (4, .int p4)]) hx hb dX7_isHidden_29 hl (by decide) rfl (fun ls hl => ?_)
    refine lv_iload (pc := 31) hx hb dX7_isHidden_31 (lv_at hl 1 rfl) ?_
    refine lv_iload (pc := 33) hx hb dX7_isHidden_33 (lv_at hl 0 rfl) ?_
    refine r_ic_gt (pc := 35) (tgt := 40) hx hb dX7_isHidden_35 (by decide) hf (fun hf => ?_) (fun hf => ?_)
    · refine lv_aload_n (pc := 40) hx hb dX7_isHidden_40 rfl (lv_at hl 2 rfl) ?_
      refine va_get (pc := 41) (D := D) (ci := 7) (v := .ref st_talls_A) (C := RX7) (T := TX7) (N := 6) hx hb hts inG7 hown hK hP 0 rfl rfl 3 (by decide) (hts _ tw_117) (fun _ h9 => h9) rfl dX7_isHidden_41 ?_
      refine lv_iload_n (pc := 44) hx hb dX7_isHidden_44 rfl (lv_at hl 3 rfl) ?_
      refine r_iald (pc := 45) hx hb hK hP 1 0 rfl rfl hf dX7_isHidden_45 (fun v5 hf => ?_)
      refine lv_aload_n (pc := 46) hx hb dX7_isHidden_46 rfl (lv_at hl 2 rfl) ?_
      refine va_get (pc := 47) (D := D) (ci := 7) (v := .int st_rise) (C := RX7) (T := TX7) (N := 6) hx hb hts inG7 hown hK hP 0 rfl rfl 2 (by decide) (hts _ tw_115) (fun _ h9 => h9) rfl dX7_isHidden_47 ?_
      refine lv_iload (pc := 50) hx hb dX7_isHidden_50 (lv_at hl 1 rfl) ?_
      refine lv_imul (pc := 52) hx hb dX7_isHidden_52 ?_
      refine lv_iadd (pc := 53) hx hb dX7_isHidden_53 ?_
      refine lv_aload_n (pc := 54) hx hb dX7_isHidden_54 rfl (lv_at hl 2 rfl) ?_
      refine va_get (pc := 55) (D := D) (ci := 7) (v := .ref st_talls_A) (C := RX7) (T := TX7) (N := 6) hx hb hts inG7 hown hK hP 0 rfl rfl 3 (by decide) (hts _ tw_117) (fun _ h9 => h9) rfl dX7_isHidden_55 ?_
      refine lv_iload_n (pc := 58) hx hb dX7_isHidden_58 rfl (lv_at hl 5 rfl) ?_
      refine r_iald (pc := 59) hx hb hK hP 1 0 rfl rfl hf dX7_isHidden_59 (fun v6 hf => ?_)
      refine lv_aload_n (pc := 60) hx hb dX7_isHidden_60 rfl (lv_at hl 2 rfl) ?_
      refine va_get (pc := 61) (D := D) (ci := 7) (v := .int st_rise) (C := RX7) (T := TX7) (N := 6) hx hb hts inG7 hown hK hP 0 rfl rfl 2 (by decide) (hts _ tw_115) (fun _ h9 => h9) rfl dX7_isHidden_61 ?_
      refine lv_iload (pc := 64) hx hb dX7_isHidden_64 (lv_at hl 0 rfl) ?_
      refine lv_imul (pc := 66) hx hb dX7_isHidden_66 ?_
      refine lv_iadd (pc := 67) hx hb dX7_isHidden_67 ?_
      refine r_ic_gt (pc := 68) (tgt := 75) hx hb dX7_isHidden_68 (by decide) hf (fun hf => ?_) (fun hf => ?_)
      · refine lv_iconst (pc := 75) (v := (0 : Int32)) hx hb dX7_isHidden_75 (by decide) ?_
        exact hQ _ _ _ dX7_isHidden_76 rfl hf
      · refine lv_iconst (pc := 71) (v := (1 : Int32)) hx hb dX7_isHidden_71 (by decide) ?_
        refine lv_goto (pc := 72) (tgt := 76) hx hb dX7_isHidden_72 (by decide) ?_
        exact hQ _ _ _ dX7_isHidden_76 rfl hf
    · refine lv_iconst (pc := 38) (v := (0 : Int32)) hx hb dX7_isHidden_38 (by decide) ?_
      exact hQ _ _ _ dX7_isHidden_39 rfl hf
  · refine lv_iconst (pc := 14) (v := (0 : Int32)) hx hb dX7_isHidden_14 (by decide) ?_
    exact hQ _ _ _ dX7_isHidden_15 rfl hf
theorem F_X7_areNeighbours : CalF yX7_areNeighbours cX7_areNeighbours 5 (some .boolean) 2 := ⟨tw_613, tw_7, by decide +kernel⟩
set_option maxRecDepth 100000 in
set_option maxHeartbeats 4000000 in
theorem c_X7_areNeighbours (l : Launch) (D : va_G) (cI cJ cZ cS : ClassId) (st_A st_talls_A st_pairs_A : Nat) (st_rows : Int32) (st_columns : Int32) (st_rise : Int32) (st_talls : Nat → Int32) (st_pairs : Nat → Int32) (st_changed : Int32) (p1 : Int32) (p2 : Int32) (r : Int32) (hf : f_X7_areNeighbours st_columns p1 p2 = some r) : RoC l D cI cJ cZ cS yX7_areNeighbours cX7_areNeighbours 5 (some .boolean) 1 21 (w_X7 cI cJ cZ cS st_A st_talls_A st_pairs_A st_rows st_columns st_rise st_talls st_pairs st_changed) [.ref st_A, .int p1, .int p2] (some (.int r)) := by
  refine ro_in_z (own := RX7) (by decide +kernel) rfl (Nat.le_of_ble_eq_true rfl) ?_
  intro p e s m args below meth c ls Q E hQ hP hl
  obtain ⟨hx, hb, hml, hown, hts, hK, hN, hAO⟩ := id E
  have hl : lv_has ls 5 [(0, .ref st_A), (1, .int p1), (2, .int p2)] := hl
  unfold f_X7_areNeighbours at hf
  refine lv_aload_n (pc := 0) hx hb dX7_areNeighbours_0 rfl (lv_at hl 0 rfl) ?_
  refine lv_iload_n (pc := 1) hx hb dX7_areNeighbours_1 rfl (lv_at hl 1 rfl) ?_
  obtain ⟨v1, hv2, hf⟩ := bd_e hf
  refine ro_Vi (pc := 2) (As := [.int p1]) (rest := []) E (c_X7_rowOf l D cI cJ cZ cS st_A st_talls_A st_pairs_A st_rows st_columns st_rise st_talls st_pairs st_changed p1 v1 hv2) F_X7_rowOf rfl rfl tw_606 tw_608 tp_16 hP ⟨by decide, by decide⟩ rfl hl.1 (Nat.le_of_ble_eq_true rfl) ⟨by decide, by decide⟩ rfl dX7_areNeighbours_2 ?_
  refine lv_aload_n (pc := 5) hx hb dX7_areNeighbours_5 rfl (lv_at hl 0 rfl) ?_
  refine lv_iload_n (pc := 6) hx hb dX7_areNeighbours_6 rfl (lv_at hl 2 rfl) ?_
  obtain ⟨v2, hv7, hf⟩ := bd_e hf
  refine ro_Vi (pc := 7) (As := [.int p2]) (rest := [.int v1]) E (c_X7_rowOf l D cI cJ cZ cS st_A st_talls_A st_pairs_A st_rows st_columns st_rise st_talls st_pairs st_changed p2 v2 hv7) F_X7_rowOf rfl rfl tw_606 tw_608 tp_16 hP ⟨by decide, by decide⟩ rfl hl.1 (Nat.le_of_ble_eq_true rfl) ⟨by decide, by decide⟩ rfl dX7_areNeighbours_7 ?_
  refine lv_isub (pc := 10) hx hb dX7_areNeighbours_10 ?_
  refine r_mabs (pc := 11) E hl.1 tw_614 tw_615 tw_11 tw_616 (by decide) (Nat.le_of_ble_eq_true rfl) (by decide) (by decide) dX7_areNeighbours_11 ?_
  refine lv_istore_n (pc := 14) (lv' := [(3, .int (iabs (v1 - v2))), (0, .ref st_A), (1, .int p1), (2, .int p2)]) hx hb dX7_areNeighbours_14 rfl hl (by decide) rfl (fun ls hl => ?_)
  refine lv_aload_n (pc := 15) hx hb dX7_areNeighbours_15 rfl (lv_at hl 1 rfl) ?_
  refine lv_iload_n (pc := 16) hx hb dX7_areNeighbours_16 rfl (lv_at hl 2 rfl) ?_
  obtain ⟨v3, hv17, hf⟩ := bd_e hf
  refine ro_Vi (pc := 17) (As := [.int p1]) (rest := []) E (c_X7_columnOf l D cI cJ cZ cS st_A st_talls_A st_pairs_A st_rows st_columns st_rise st_talls st_pairs st_changed p1 v3 hv17) F_X7_columnOf rfl rfl tw_602 tw_604 tp_15 hP ⟨by decide, by decide⟩ rfl hl.1 (Nat.le_of_ble_eq_true rfl) ⟨by decide, by decide⟩ rfl dX7_areNeighbours_17 ?_
  refine lv_aload_n (pc := 20) hx hb dX7_areNeighbours_20 rfl (lv_at hl 1 rfl) ?_
  refine lv_iload_n (pc := 21) hx hb dX7_areNeighbours_21 rfl (lv_at hl 3 rfl) ?_
  obtain ⟨v4, hv22, hf⟩ := bd_e hf
  refine ro_Vi (pc := 22) (As := [.int p2]) (rest := [.int v3]) E (c_X7_columnOf l D cI cJ cZ cS st_A st_talls_A st_pairs_A st_rows st_columns st_rise st_talls st_pairs st_changed p2 v4 hv22) F_X7_columnOf rfl rfl tw_602 tw_604 tp_15 hP ⟨by decide, by decide⟩ rfl hl.1 (Nat.le_of_ble_eq_true rfl) ⟨by decide, by decide⟩ rfl dX7_areNeighbours_22 ?_
  refine lv_isub (pc := 25) hx hb dX7_areNeighbours_25 ?_
  refine r_mabs (pc := 26) E hl.1 tw_614 tw_615 tw_11 tw_616 (by decide) (Nat.le_of_ble_eq_true rfl) (by decide) (by decide) dX7_areNeighbours_26 ?_
  refine lv_istore (pc := 29) (lv' := [(4, .int (iabs (v3 - v4))), (3, .int (iabs (v1 - v2))), (0, .ref st_A), (1, .int p1), (2, .int p2)]) hx hb dX7_areNeighbours_29 hl (by decide) rfl (fun ls hl => ?_)
  refine lv_iload_n (pc := 31) hx hb dX7_areNeighbours_31 rfl (lv_at hl 1 rfl) ?_
  refine lv_iload (pc := 32) hx hb dX7_areNeighbours_32 (lv_at hl 0 rfl) ?_
  refine lv_iadd (pc := 34) hx hb dX7_areNeighbours_34 ?_
  refine lv_iconst (pc := 35) (v := (1 : Int32)) hx hb dX7_areNeighbours_35 (by decide) ?_
  refine r_ic_ne (pc := 36) (tgt := 43) hx hb dX7_areNeighbours_36 (by decide) hf (fun hf => ?_) (fun hf => ?_)
  · refine lv_iconst (pc := 43) (v := (0 : Int32)) hx hb dX7_areNeighbours_43 (by decide) ?_
    exact hQ _ _ _ dX7_areNeighbours_44 rfl hf
  · refine lv_iconst (pc := 39) (v := (1 : Int32)) hx hb dX7_areNeighbours_39 (by decide) ?_
    refine lv_goto (pc := 40) (tgt := 44) hx hb dX7_areNeighbours_40 (by decide) ?_
    exact hQ _ _ _ dX7_areNeighbours_44 rfl hf
theorem F_X7_wrongBetween : CalF yX7_wrongBetween cX7_wrongBetween 7 (some .int) 4 := ⟨tw_597, tw_7, by decide +kernel⟩
set_option maxRecDepth 100000 in
set_option maxHeartbeats 4000000 in
theorem c_X7_wrongBetween (l : Launch) (D : va_G) (cI cJ cZ cS : ClassId) (st_A st_talls_A st_pairs_A : Nat) (st_rows : Int32) (st_columns : Int32) (st_rise : Int32) (st_talls : Nat → Int32) (st_pairs : Nat → Int32) (st_changed : Int32) (p1 : Int32) (p2 : Int32) (p3 : Int32) (p4 : Int32) (r : Int32) (hf : f_X7_wrongBetween st_columns st_rise st_talls st_pairs p1 p2 p3 p4 = some r) : RoC l D cI cJ cZ cS yX7_wrongBetween cX7_wrongBetween 7 (some .int) 2 47 (w_X7 cI cJ cZ cS st_A st_talls_A st_pairs_A st_rows st_columns st_rise st_talls st_pairs st_changed) [.ref st_A, .int p1, .int p2, .int p3, .int p4] (some (.int r)) := by
  refine ro_in_i (own := RX7) (by decide +kernel) rfl (Nat.le_of_ble_eq_true rfl) ?_
  intro p e s m args below meth c ls Q E hQ hP hl
  obtain ⟨hx, hb, hml, hown, hts, hK, hN, hAO⟩ := id E
  have hl : lv_has ls 7 [(0, .ref st_A), (1, .int p1), (2, .int p2), (3, .int p3), (4, .int p4)] := hl
  unfold f_X7_wrongBetween at hf
  refine lv_aload_n (pc := 0) hx hb dX7_wrongBetween_0 rfl (lv_at hl 0 rfl) ?_
  refine lv_iload_n (pc := 1) hx hb dX7_wrongBetween_1 rfl (lv_at hl 1 rfl) ?_
  refine lv_iload_n (pc := 2) hx hb dX7_wrongBetween_2 rfl (lv_at hl 2 rfl) ?_
  refine lv_iload_n (pc := 3) hx hb dX7_wrongBetween_3 rfl (lv_at hl 3 rfl) ?_
  refine lv_iload (pc := 4) hx hb dX7_wrongBetween_4 (lv_at hl 4 rfl) ?_
  obtain ⟨v1, hv6, hf⟩ := bd_e hf
  refine ro_Vi (pc := 6) (As := [.int p1, .int p2, .int p3, .int p4]) (rest := []) E (c_X7_isHidden l D cI cJ cZ cS st_A st_talls_A st_pairs_A st_rows st_columns st_rise st_talls st_pairs st_changed p1 p2 p3 p4 v1 hv6) F_X7_isHidden rfl rfl tw_598 tw_600 tp_14 hP ⟨by decide, by decide⟩ rfl hl.1 (Nat.le_of_ble_eq_true rfl) ⟨by decide, by decide⟩ rfl dX7_wrongBetween_6 ?_
  refine r_if_eq (pc := 9) (tgt := 14) hx hb dX7_wrongBetween_9 (by decide) hf (fun hf => ?_) (fun hf => ?_)
  · refine lv_aload_n (pc := 14) hx hb dX7_wrongBetween_14 rfl (lv_at hl 0 rfl) ?_
    refine va_get (pc := 15) (D := D) (ci := 7) (v := .ref st_pairs_A) (C := RX7) (T := TX7) (N := 6) hx hb hts inG7 hown hK hP 0 rfl rfl 4 (by decide) (hts _ tw_118) (fun _ h9 => h9) rfl dX7_wrongBetween_15 ?_
    refine lv_iload_n (pc := 18) hx hb dX7_wrongBetween_18 rfl (lv_at hl 1 rfl) ?_
    refine lv_bipush (pc := 19) (v := (8 : Int32)) hx hb dX7_wrongBetween_19 (by decide) ?_
    refine lv_imul (pc := 21) hx hb dX7_wrongBetween_21 ?_
    refine lv_iload_n (pc := 22) hx hb dX7_wrongBetween_22 rfl (lv_at hl 3 rfl) ?_
    refine lv_iadd (pc := 23) hx hb dX7_wrongBetween_23 ?_
    refine r_iald (pc := 24) hx hb hK hP 2 0 rfl rfl hf dX7_wrongBetween_24 (fun v2 hf => ?_)
    refine lv_istore (pc := 25) (lv' := [(5, .int v2), (0, .ref st_A), (1, .int p1), (2, .int p2), (3, .int p3), (4, .int p4)]) hx hb dX7_wrongBetween_25 hl (by decide) rfl (fun ls hl => ?_)
    refine lv_iload (pc := 27) hx hb dX7_wrongBetween_27 (lv_at hl 0 rfl) ?_
    refine r_if_ne (pc := 29) (tgt := 34) hx hb dX7_wrongBetween_29 (by decide) hf (fun hf => ?_) (fun hf => ?_)
    · refine lv_aload_n (pc := 34) hx hb dX7_wrongBetween_34 rfl (lv_at hl 1 rfl) ?_
      refine lv_iload_n (pc := 35) hx hb dX7_wrongBetween_35 rfl (lv_at hl 3 rfl) ?_
      refine lv_iload (pc := 36) hx hb dX7_wrongBetween_36 (lv_at hl 5 rfl) ?_
      obtain ⟨v3, hv38, hf⟩ := bd_e hf
      refine ro_Vi (pc := 38) (As := [.int p2, .int p4]) (rest := []) E (c_X7_areNeighbours l D cI cJ cZ cS st_A st_talls_A st_pairs_A st_rows st_columns st_rise st_talls st_pairs st_changed p2 p4 v3 hv38) F_X7_areNeighbours rfl rfl tw_610 tw_612 tp_17 hP ⟨by decide, by decide⟩ rfl hl.1 (Nat.le_of_ble_eq_true rfl) ⟨by decide, by decide⟩ rfl dX7_wrongBetween_38 ?_
      refine lv_istore (pc := 41) (lv' := [(6, .int v3), (5, .int v2), (0, .ref st_A), (1, .int p1), (2, .int p2), (3, .int p3), (4, .int p4)]) hx hb dX7_wrongBetween_41 hl (by decide) rfl (fun ls hl => ?_)
      refine lv_iload (pc := 43) hx hb dX7_wrongBetween_43 (lv_at hl 1 rfl) ?_
      refine lv_iconst (pc := 45) (v := (1 : Int32)) hx hb dX7_wrongBetween_45 (by decide) ?_
      obtain ⟨k4, hk4, hf⟩ := lc0_e hf
      have K4 : ∀  (ls : Array Slot), k4 = some r → lv_has ls 7 [(5, .int v2), (6, .int v3)] → W p l e (roR 2 47) s m args below meth c s.heap [] 0 0 Q (F0 m 56 ls []) := by
        intro  ls hf hl
        rw [hk4] at hf
        refine lv_iload (pc := 56) hx hb dX7_wrongBetween_56 (lv_at hl 0 rfl) ?_
        refine lv_iconst (pc := 58) (v := (2 : Int32)) hx hb dX7_wrongBetween_58 (by decide) ?_
        refine r_ic_ne (pc := 59) (tgt := 69) hx hb dX7_wrongBetween_59 (by decide) hf (fun hf => ?_) (fun hf => ?_)
        · refine lv_iconst (pc := 69) (v := (0 : Int32)) hx hb dX7_wrongBetween_69 (by decide) ?_
          exact hQ _ _ _ dX7_wrongBetween_70 hf
        · refine lv_iload (pc := 62) hx hb dX7_wrongBetween_62 (lv_at hl 1 rfl) ?_
          refine r_if_ne (pc := 64) (tgt := 69) hx hb dX7_wrongBetween_64 (by decide) hf (fun hf => ?_) (fun hf => ?_)
          · refine lv_iconst (pc := 69) (v := (0 : Int32)) hx hb dX7_wrongBetween_69 (by decide) ?_
            exact hQ _ _ _ dX7_wrongBetween_70 hf
          · refine lv_iconst (pc := 67) (v := (3 : Int32)) hx hb dX7_wrongBetween_67 (by decide) ?_
            exact hQ _ _ _ dX7_wrongBetween_68 hf
      refine r_ic_ne (pc := 46) (tgt := 56) hx hb dX7_wrongBetween_46 (by decide) hf (fun hf => ?_) (fun hf => ?_)
      · exact K4  _ hf (lv_sub hl [1, 0] rfl)
      · refine lv_iload (pc := 49) hx hb dX7_wrongBetween_49 (lv_at hl 0 rfl) ?_
        refine r_if_eq (pc := 51) (tgt := 56) hx hb dX7_wrongBetween_51 (by decide) hf (fun hf => ?_) (fun hf => ?_)
        · exact K4  _ hf (lv_sub hl [1, 0] rfl)
        · refine lv_iconst (pc := 54) (v := (2 : Int32)) hx hb dX7_wrongBetween_54 (by decide) ?_
          exact hQ _ _ _ dX7_wrongBetween_55 hf
    · refine lv_iconst (pc := 32) (v := (0 : Int32)) hx hb dX7_wrongBetween_32 (by decide) ?_
      exact hQ _ _ _ dX7_wrongBetween_33 hf
  · refine lv_iconst (pc := 12) (v := (1 : Int32)) hx hb dX7_wrongBetween_12 (by decide) ?_
    exact hQ _ _ _ dX7_wrongBetween_13 hf
theorem F_X7_suits : CalF yX7_suits cX7_suits 5 (some .boolean) 4 := ⟨tw_634, tw_7, by decide +kernel⟩
set_option maxRecDepth 100000 in
set_option maxHeartbeats 4000000 in
theorem c_X7_suits (l : Launch) (D : va_G) (cI cJ cZ cS : ClassId) (st_A st_talls_A st_pairs_A : Nat) (st_rows : Int32) (st_columns : Int32) (st_rise : Int32) (st_talls : Nat → Int32) (st_pairs : Nat → Int32) (st_changed : Int32) (p1 : Int32) (p2 : Int32) (p3 : Int32) (p4 : Int32) (r : Int32) (hf : f_X7_suits st_columns st_rise st_talls st_pairs p1 p2 p3 p4 = some r) : RoC l D cI cJ cZ cS yX7_suits cX7_suits 5 (some .boolean) 3 73 (w_X7 cI cJ cZ cS st_A st_talls_A st_pairs_A st_rows st_columns st_rise st_talls st_pairs st_changed) [.ref st_A, .int p1, .int p2, .int p3, .int p4] (some (.int r)) := by
  refine ro_in_z (own := RX7) (by decide +kernel) rfl (Nat.le_of_ble_eq_true rfl) ?_
  intro p e s m args below meth c ls Q E hQ hP hl
  obtain ⟨hx, hb, hml, hown, hts, hK, hN, hAO⟩ := id E
  have hl : lv_has ls 5 [(0, .ref st_A), (1, .int p1), (2, .int p2), (3, .int p3), (4, .int p4)] := hl
  unfold f_X7_suits at hf
  refine lv_iload_n (pc := 0) hx hb dX7_suits_0 rfl (lv_at hl 2 rfl) ?_
  refine lv_iload (pc := 1) hx hb dX7_suits_1 (lv_at hl 4 rfl) ?_
  refine r_ic_eq (pc := 3) (tgt := 34) hx hb dX7_suits_3 (by decide) hf (fun hf => ?_) (fun hf => ?_)
  · refine lv_iconst (pc := 34) (v := (0 : Int32)) hx hb dX7_suits_34 (by decide) ?_
    exact hQ _ _ _ dX7_suits_35 rfl hf
  · refine lv_aload_n (pc := 6) hx hb dX7_suits_6 rfl (lv_at hl 0 rfl) ?_
    refine lv_iload_n (pc := 7) hx hb dX7_suits_7 rfl (lv_at hl 1 rfl) ?_
    refine lv_iload_n (pc := 8) hx hb dX7_suits_8 rfl (lv_at hl 2 rfl) ?_
    refine lv_iload_n (pc := 9) hx hb dX7_suits_9 rfl (lv_at hl 3 rfl) ?_
    refine lv_iload (pc := 10) hx hb dX7_suits_10 (lv_at hl 4 rfl) ?_
    obtain ⟨v1, hv12, hf⟩ := bd_e hf
    refine ro_Vi (pc := 12) (As := [.int p1, .int p2, .int p3, .int p4]) (rest := []) E (c_X7_wrongBetween l D cI cJ cZ cS st_A st_talls_A st_pairs_A st_rows st_columns st_rise st_talls st_pairs st_changed p1 p2 p3 p4 v1 hv12) F_X7_wrongBetween rfl rfl tw_594 tw_596 tp_13 hP ⟨by decide, by decide⟩ rfl hl.1 (Nat.le_of_ble_eq_true rfl) ⟨by decide, by decide⟩ rfl dX7_suits_12 ?_
    refine r_if_ne (pc := 15) (tgt := 34) hx hb dX7_suits_15 (by decide) hf (fun hf => ?_) (fun hf => ?_)
    · refine lv_iconst (pc := 34) (v := (0 : Int32)) hx hb dX7_suits_34 (by decide) ?_
      exact hQ _ _ _ dX7_suits_35 rfl hf
    · refine lv_aload_n (pc := 18) hx hb dX7_suits_18 rfl (lv_at hl 0 rfl) ?_
      refine lv_iload_n (pc := 19) hx hb dX7_suits_19 rfl (lv_at hl 3 rfl) ?_
      refine lv_iload (pc := 20) hx hb dX7_suits_20 (lv_at hl 4 rfl) ?_
      refine lv_iload_n (pc := 22) hx hb dX7_suits_22 rfl (lv_at hl 1 rfl) ?_
      refine lv_iload_n (pc := 23) hx hb dX7_suits_23 rfl (lv_at hl 2 rfl) ?_
      obtain ⟨v2, hv24, hf⟩ := bd_e hf
      refine ro_Vi (pc := 24) (As := [.int p3, .int p4, .int p1, .int p2]) (rest := []) E (c_X7_wrongBetween l D cI cJ cZ cS st_A st_talls_A st_pairs_A st_rows st_columns st_rise st_talls st_pairs st_changed p3 p4 p1 p2 v2 hv24) F_X7_wrongBetween rfl rfl tw_594 tw_596 tp_13 hP ⟨by decide, by decide⟩ rfl hl.1 (Nat.le_of_ble_eq_true rfl) ⟨by decide, by decide⟩ rfl dX7_suits_24 ?_
      refine r_if_ne (pc := 27) (tgt := 34) hx hb dX7_suits_27 (by decide) hf (fun hf => ?_) (fun hf => ?_)
      · refine lv_iconst (pc := 34) (v := (0 : Int32)) hx hb dX7_suits_34 (by decide) ?_
        exact hQ _ _ _ dX7_suits_35 rfl hf
      · refine lv_iconst (pc := 30) (v := (1 : Int32)) hx hb dX7_suits_30 (by decide) ?_
        refine lv_goto (pc := 31) (tgt := 35) hx hb dX7_suits_31 (by decide) ?_
        exact hQ _ _ _ dX7_suits_35 rfl hf
theorem F_X7_wrongFor : CalF yX7_wrongFor cX7_wrongFor 7 (some .int) 3 := ⟨tw_593, tw_7, by decide +kernel⟩
set_option maxRecDepth 100000 in
set_option maxHeartbeats 4000000 in
theorem c_X7_wrongFor (l : Launch) (D : va_G) (cI cJ cZ cS : ClassId) (N : Nat) (st_A st_talls_A st_pairs_A ar_A : Nat) (st_rows : Int32) (st_columns : Int32) (st_rise : Int32) (st_talls : Nat → Int32) (st_pairs : Nat → Int32) (st_changed : Int32) (ar : Nat → Int32) (p1 : Int32) (p3 : Int32) (r : Int32) (hf : f_X7_wrongFor N st_columns st_rise st_talls st_pairs ar p1 p3 = some r) : RoC l D cI cJ cZ cS yX7_wrongFor cX7_wrongFor 7 (some .int) 3 73 (w_X7A cI cJ cZ cS st_A st_talls_A st_pairs_A ar_A st_rows st_columns st_rise st_talls st_pairs st_changed ar) [.ref st_A, .int p1, .ref ar_A, .int p3] (some (.int r)) := by
  refine ro_in_i (own := RX7) (by decide +kernel) rfl (Nat.le_of_ble_eq_true rfl) ?_
  intro p e s m args below meth c ls Q E hQ hP hl
  obtain ⟨hx, hb, hml, hown, hts, hK, hN, hAO⟩ := id E
  have hl : lv_has ls 7 [(0, .ref st_A), (1, .int p1), (2, .ref ar_A), (3, .int p3)] := hl
  unfold f_X7_wrongFor at hf
  refine lv_iconst (pc := 0) (v := (0 : Int32)) hx hb dX7_wrongFor_0 (by decide) ?_
  refine lv_istore (pc := 1) (lv' := [(4, .int (0 : Int32)), (0, .ref st_A), (1, .int p1), (2, .ref ar_A), (3, .int p3)]) hx hb dX7_wrongFor_1 hl (by decide) rfl (fun ls hl => ?_)
  refine lv_iconst (pc := 3) (v := (0 : Int32)) hx hb dX7_wrongFor_3 (by decide) ?_
  refine lv_istore (pc := 4) (lv' := [(5, .int (0 : Int32)), (4, .int (0 : Int32)), (0, .ref st_A), (1, .int p1), (2, .ref ar_A), (3, .int p3)]) hx hb dX7_wrongFor_4 hl (by decide) rfl (fun ls hl => ?_)
  obtain ⟨k4, hk4, hf⟩ := lc1_e hf
  have K4 : ∀ (z5 : Int32) (ls : Array Slot), k4 z5 = some r → lv_has ls 7 [(4, .int z5)] → W p l e (roR 3 73) s m args below meth c s.heap [] 0 0 Q (F0 m 71 ls []) := by
    intro z5 ls hf hl
    rw [hk4] at hf
    refine lv_iload (pc := 71) hx hb dX7_wrongFor_71 (lv_at hl 0 rfl) ?_
    exact hQ _ _ _ dX7_wrongFor_73 hf
  have L6 : ∀ (n : Nat), ∀ (y1 : Int32) (y2 : Int32) (ls : Array Slot), f_X7_wrongFor_L6 st_columns st_rise st_talls st_pairs ar p1 p3 k4 n y1 y2 = some r → lv_has ls 7 [(0, .ref st_A), (1, .int p1), (2, .ref ar_A), (3, .int p3), (4, .int y1), (5, .int y2)] → W p l e (roR 3 73) s m args below meth c s.heap [] 0 0 Q (F0 m 6 ls []) := by
    intro n
    induction n with
    | zero =>
      intro y1 y2 ls hf
      rw [f_X7_wrongFor_L6] at hf
      cases hf
    | succ n ih =>
      intro y1 y2 ls hf hl
      rw [f_X7_wrongFor_L6] at hf
      refine lv_iload (pc := 6) hx hb dX7_wrongFor_6 (lv_at hl 5 rfl) ?_
      refine lv_iload_n (pc := 8) hx hb dX7_wrongFor_8 rfl (lv_at hl 3 rfl) ?_
      refine r_ic_ge (pc := 9) (tgt := 71) hx hb dX7_wrongFor_9 (by decide) hf (fun hf => ?_) (fun hf => ?_)
      · exact K4 _ _ hf (lv_sub hl [4] rfl)
      · refine lv_iload (pc := 12) hx hb dX7_wrongFor_12 (lv_at hl 5 rfl) ?_
        refine lv_aload_n (pc := 14) hx hb dX7_wrongFor_14 rfl (lv_at hl 2 rfl) ?_
        refine va_alen (pc := 15) hx hb hK hP 3 0 rfl rfl (v := (8 : Int32)) rfl dX7_wrongFor_15 ?_
        refine r_ic_ge (pc := 16) (tgt := 71) hx hb dX7_wrongFor_16 (by decide) hf (fun hf => ?_) (fun hf => ?_)
        · exact K4 _ _ hf (lv_sub hl [4] rfl)
        · refine lv_iload (pc := 19) hx hb dX7_wrongFor_19 (lv_at hl 5 rfl) ?_
          refine lv_iload_n (pc := 21) hx hb dX7_wrongFor_21 rfl (lv_at hl 1 rfl) ?_
          obtain ⟨k6, hk6, hf⟩ := lc1_e hf
          have K6 : ∀ (x11 : Int32) (ls : Array Slot), k6 x11 = some r → lv_has ls 7 [(0, .ref st_A), (1, .int p1), (2, .ref ar_A), (3, .int p3), (4, .int x11), (5, .int y2)] → W p l e (roR 3 73) s m args below meth c s.heap [] 0 0 Q (F0 m 65 ls []) := by
            intro x11 ls hf hl
            rw [hk6] at hf
            refine lv_iinc (pc := 65) (v := (y2 + (1 : Int32))) (lv' := [(5, .int (y2 + (1 : Int32))), (0, .ref st_A), (1, .int p1), (2, .ref ar_A), (3, .int p3), (4, .int x11)]) hx hb dX7_wrongFor_65 hl (k := 5) rfl (by rfl) (by decide) rfl (fun ls hl => ?_)
            refine lv_goto (pc := 68) (tgt := 6) hx hb dX7_wrongFor_68 (by decide) ?_
            exact ih _ _ _ hf (lv_sub hl [1, 2, 3, 4, 5, 0] rfl)
          refine r_ic_ne (pc := 22) (tgt := 28) hx hb dX7_wrongFor_22 (by decide) hf (fun hf => ?_) (fun hf => ?_)
          · refine lv_aload_n (pc := 28) hx hb dX7_wrongFor_28 rfl (lv_at hl 0 rfl) ?_
            refine lv_iload_n (pc := 29) hx hb dX7_wrongFor_29 rfl (lv_at hl 1 rfl) ?_
            refine lv_aload_n (pc := 30) hx hb dX7_wrongFor_30 rfl (lv_at hl 2 rfl) ?_
            refine lv_iload_n (pc := 31) hx hb dX7_wrongFor_31 rfl (lv_at hl 1 rfl) ?_
            refine r_iald (pc := 32) hx hb hK hP 3 0 rfl rfl hf dX7_wrongFor_32 (fun v7 hf => ?_)
            refine lv_iload (pc := 33) hx hb dX7_wrongFor_33 (lv_at hl 5 rfl) ?_
            refine lv_aload_n (pc := 35) hx hb dX7_wrongFor_35 rfl (lv_at hl 2 rfl) ?_
            refine lv_iload (pc := 36) hx hb dX7_wrongFor_36 (lv_at hl 5 rfl) ?_
            refine r_iald (pc := 38) hx hb hK hP 3 0 rfl rfl hf dX7_wrongFor_38 (fun v8 hf => ?_)
            obtain ⟨v9, hv39, hf⟩ := bd_e hf
            refine ro_Vi (pc := 39) (As := [.int p1, .int v7, .int y2, .int v8]) (rest := []) E (c_X7_wrongBetween l D cI cJ cZ cS st_A st_talls_A st_pairs_A st_rows st_columns st_rise st_talls st_pairs st_changed p1 v7 y2 v8 v9 hv39) F_X7_wrongBetween rfl rfl tw_594 tw_596 tp_13 (hP.subm [0, 1, 2] rfl) ⟨by decide, by decide⟩ rfl hl.1 (Nat.le_of_ble_eq_true rfl) ⟨by decide, by decide⟩ rfl dX7_wrongFor_39 ?_
            refine lv_istore (pc := 42) (lv' := [(6, .int v9), (0, .ref st_A), (1, .int p1), (2, .ref ar_A), (3, .int p3), (4, .int y1), (5, .int y2)]) hx hb dX7_wrongFor_42 hl (by decide) rfl (fun ls hl => ?_)
            refine lv_iload (pc := 44) hx hb dX7_wrongFor_44 (lv_at hl 0 rfl) ?_
            refine r_if_eq (pc := 46) (tgt := 65) hx hb dX7_wrongFor_46 (by decide) hf (fun hf => ?_) (fun hf => ?_)
            · exact K6 _ _ hf (lv_sub hl [1, 2, 3, 4, 5, 6] rfl)
            · refine lv_iload (pc := 49) hx hb dX7_wrongFor_49 (lv_at hl 5 rfl) ?_
              obtain ⟨k10, hk10, hf⟩ := lc0_e hf
              have K10 : ∀  (ls : Array Slot), k10 = some r → lv_has ls 7 [(0, .ref st_A), (1, .int p1), (2, .ref ar_A), (3, .int p3), (5, .int y2), (6, .int v9)] → W p l e (roR 3 73) s m args below meth c s.heap [] 0 0 Q (F0 m 61 ls []) := by
                intro  ls hf hl
                rw [hk10] at hf
                refine lv_iload (pc := 61) hx hb dX7_wrongFor_61 (lv_at hl 5 rfl) ?_
                refine lv_istore (pc := 63) (lv' := [(4, .int v9), (0, .ref st_A), (1, .int p1), (2, .ref ar_A), (3, .int p3), (5, .int y2), (6, .int v9)]) hx hb dX7_wrongFor_63 hl (by decide) rfl (fun ls hl => ?_)
                exact K6 _ _ hf (lv_sub hl [1, 2, 3, 4, 0, 5] rfl)
              refine r_if_eq (pc := 51) (tgt := 61) hx hb dX7_wrongFor_51 (by decide) hf (fun hf => ?_) (fun hf => ?_)
              · exact K10  _ hf (lv_sub hl [1, 2, 3, 4, 6, 0] rfl)
              · refine lv_iload (pc := 54) hx hb dX7_wrongFor_54 (lv_at hl 0 rfl) ?_
                refine lv_iload (pc := 56) hx hb dX7_wrongFor_56 (lv_at hl 5 rfl) ?_
                refine r_ic_ge (pc := 58) (tgt := 65) hx hb dX7_wrongFor_58 (by decide) hf (fun hf => ?_) (fun hf => ?_)
                · exact K6 _ _ hf (lv_sub hl [1, 2, 3, 4, 5, 6] rfl)
                · exact K10  _ hf (lv_sub hl [1, 2, 3, 4, 6, 0] rfl)
          · refine lv_goto (pc := 25) (tgt := 65) hx hb dX7_wrongFor_25 (by decide) ?_
            exact K6 _ _ hf hl
  exact L6 N _ _ _ hf (lv_sub hl [2, 3, 4, 5, 1, 0] rfl)
theorem F_X7_firstWrong : CalF yX7_firstWrong cX7_firstWrong 4 (some .int) 2 := ⟨tw_589, tw_7, by decide +kernel⟩
set_option maxRecDepth 100000 in
set_option maxHeartbeats 4000000 in
theorem c_X7_firstWrong (l : Launch) (D : va_G) (cI cJ cZ cS : ClassId) (N : Nat) (st_A st_talls_A st_pairs_A ar_A : Nat) (st_rows : Int32) (st_columns : Int32) (st_rise : Int32) (st_talls : Nat → Int32) (st_pairs : Nat → Int32) (st_changed : Int32) (ar : Nat → Int32) (p2 : Int32) (r : Int32) (hf : f_X7_firstWrong N st_columns st_rise st_talls st_pairs ar p2 = some r) : RoC l D cI cJ cZ cS yX7_firstWrong cX7_firstWrong 4 (some .int) 4 99 (w_X7A cI cJ cZ cS st_A st_talls_A st_pairs_A ar_A st_rows st_columns st_rise st_talls st_pairs st_changed ar) [.ref st_A, .ref ar_A, .int p2] (some (.int r)) := by
  refine ro_in_i (own := RX7) (by decide +kernel) rfl (Nat.le_of_ble_eq_true rfl) ?_
  intro p e s m args below meth c ls Q E hQ hP hl
  obtain ⟨hx, hb, hml, hown, hts, hK, hN, hAO⟩ := id E
  have hl : lv_has ls 4 [(0, .ref st_A), (1, .ref ar_A), (2, .int p2)] := hl
  unfold f_X7_firstWrong at hf
  refine lv_iconst (pc := 0) (v := (0 : Int32)) hx hb dX7_firstWrong_0 (by decide) ?_
  refine lv_istore_n (pc := 1) (lv' := [(3, .int (0 : Int32)), (0, .ref st_A), (1, .ref ar_A), (2, .int p2)]) hx hb dX7_firstWrong_1 rfl hl (by decide) rfl (fun ls hl => ?_)
  obtain ⟨k3, hk3, hf⟩ := lc0_e hf
  have K3 : ∀  (ls : Array Slot), k3 = some r → lv_has ls 4 [] → W p l e (roR 4 99) s m args below meth c s.heap [] 0 0 Q (F0 m 25 ls []) := by
    intro  ls hf hl
    rw [hk3] at hf
    refine lv_bipush (pc := 25) (v := (-6 : Int32)) hx hb dX7_firstWrong_25 (by decide) ?_
    exact hQ _ _ _ dX7_firstWrong_27 hf
  have L2 : ∀ (n : Nat), ∀ (y1 : Int32) (ls : Array Slot), f_X7_firstWrong_L2 st_columns st_rise st_talls st_pairs ar p2 N k3 n y1 = some r → lv_has ls 4 [(0, .ref st_A), (1, .ref ar_A), (2, .int p2), (3, .int y1)] → W p l e (roR 4 99) s m args below meth c s.heap [] 0 0 Q (F0 m 2 ls []) := by
    intro n
    induction n with
    | zero =>
      intro y1 ls hf
      rw [f_X7_firstWrong_L2] at hf
      cases hf
    | succ n ih =>
      intro y1 ls hf hl
      rw [f_X7_firstWrong_L2] at hf
      refine lv_iload_n (pc := 2) hx hb dX7_firstWrong_2 rfl (lv_at hl 3 rfl) ?_
      refine lv_iload_n (pc := 3) hx hb dX7_firstWrong_3 rfl (lv_at hl 2 rfl) ?_
      refine r_ic_ge (pc := 4) (tgt := 25) hx hb dX7_firstWrong_4 (by decide) hf (fun hf => ?_) (fun hf => ?_)
      · exact K3  _ hf (lv_sub hl [] rfl)
      · refine lv_aload_n (pc := 7) hx hb dX7_firstWrong_7 rfl (lv_at hl 0 rfl) ?_
        refine lv_iload_n (pc := 8) hx hb dX7_firstWrong_8 rfl (lv_at hl 3 rfl) ?_
        refine lv_aload_n (pc := 9) hx hb dX7_firstWrong_9 rfl (lv_at hl 1 rfl) ?_
        refine lv_iload_n (pc := 10) hx hb dX7_firstWrong_10 rfl (lv_at hl 2 rfl) ?_
        obtain ⟨v4, hv11, hf⟩ := bd_e hf
        refine ro_Vi (pc := 11) (As := [.int y1, .ref ar_A, .int p2]) (rest := []) E (c_X7_wrongFor l D cI cJ cZ cS N st_A st_talls_A st_pairs_A ar_A st_rows st_columns st_rise st_talls st_pairs st_changed ar y1 p2 v4 hv11) F_X7_wrongFor rfl rfl tw_590 tw_591 tw_592 hP ⟨by decide, by decide⟩ rfl hl.1 (Nat.le_of_ble_eq_true rfl) ⟨by decide, by decide⟩ rfl dX7_firstWrong_11 ?_
        refine r_if_eq (pc := 14) (tgt := 19) hx hb dX7_firstWrong_14 (by decide) hf (fun hf => ?_) (fun hf => ?_)
        · refine lv_iinc (pc := 19) (v := (y1 + (1 : Int32))) (lv' := [(3, .int (y1 + (1 : Int32))), (0, .ref st_A), (1, .ref ar_A), (2, .int p2)]) hx hb dX7_firstWrong_19 hl (k := 3) rfl (by rfl) (by decide) rfl (fun ls hl => ?_)
          refine lv_goto (pc := 22) (tgt := 2) hx hb dX7_firstWrong_22 (by decide) ?_
          exact ih _ _ hf (lv_sub hl [1, 2, 3, 0] rfl)
        · refine lv_iload_n (pc := 17) hx hb dX7_firstWrong_17 rfl (lv_at hl 3 rfl) ?_
          exact hQ _ _ _ dX7_firstWrong_18 hf
  exact L2 N _ _ hf (lv_sub hl [1, 2, 3, 0] rfl)
