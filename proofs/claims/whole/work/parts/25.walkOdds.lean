theorem F_X2_waysOf : CalF yX2_waysOf cX2_waysOf 2 (some .long) 2 := ⟨tw_517, tw_6, by decide +kernel⟩
set_option maxRecDepth 100000 in
set_option maxHeartbeats 4000000 in
theorem c_X2_waysOf (l : Launch) (D : va_G) (cI cJ cZ cS : ClassId) (p1 : Int32) (p2 : Int32) (r : Int64) (hf : f_X2_waysOf p1 p2 = some r) : RoC l D cI cJ cZ cS yX2_waysOf cX2_waysOf 2 (some .long) 0 0 [] [.int p1, .int p2] (some (.long r)) := by
  refine ro_in_l (own := RX2) (by decide +kernel) rfl (Nat.le_of_ble_eq_true rfl) ?_
  intro p e s m args below meth c ls Q E hQ hP hl
  obtain ⟨hx, hb, hml, hown, hts, hK, hN, hAO⟩ := id E
  have hl : lv_has ls 2 [(0, .int p1), (1, .int p2)] := hl
  unfold f_X2_waysOf at hf
  refine lv_lconst (pc := 0) (v := (1 : Int64)) hx hb dX2_waysOf_0 (by decide) ?_
  refine lv_iconst (pc := 1) (v := (2 : Int32)) hx hb dX2_waysOf_1 (by decide) ?_
  refine lv_iload_n (pc := 2) hx hb dX2_waysOf_2 rfl (lv_at hl 0 rfl) ?_
  refine lv_imul (pc := 3) hx hb dX2_waysOf_3 ?_
  refine lv_iload_n (pc := 4) hx hb dX2_waysOf_4 rfl (lv_at hl 1 rfl) ?_
  refine lv_imul (pc := 5) hx hb dX2_waysOf_5 ?_
  refine lv_lshl (pc := 6) (v := ((1 : Int64) <<< (Int32.toInt64 (((2 : Int32) * p1) * p2) &&& 63))) hx hb dX2_waysOf_6 rfl ?_
  exact hQ _ _ _ dX2_waysOf_7 hf
theorem F_X2_startPeople : CalF yX2_startPeople cX2_startPeople 2 none 0 := ⟨tw_92, tw_6, by decide +kernel⟩
set_option maxRecDepth 100000 in
set_option maxHeartbeats 4000000 in
theorem c_X2_startPeople (l : Launch) (D : va_G) (cI cJ cZ cS : ClassId) (N : Nat) (od_A od_quarters_A : Nat) (od_tired : Int32) (od_quarters : Nat → Int32) (sz : Nat) (r_od_quarters : Nat → Int32) (hf : f_X2_startPeople N od_quarters = some r_od_quarters) : RwC l D cI cJ cZ cS yX2_startPeople cX2_startPeople 2 none 0 0 (w_X2 cI cJ cZ cS od_A od_quarters_A od_tired od_quarters) sz [.ref od_A] none (w_X2 cI cJ cZ cS od_A od_quarters_A od_tired r_od_quarters) := by
  refine rw_in_v (own := RX2) (by decide +kernel) rfl (Nat.le_of_ble_eq_true rfl) ?_
  intro p e s m args below meth c ls Q A E hA hQ hP hD hS hl
  obtain ⟨hx, hb, hml, hown, hts, hK, hN, hAO⟩ := id E
  have hl : lv_has ls 2 [(0, .ref od_A)] := hl
  unfold f_X2_startPeople at hf
  obtain ⟨H, hH⟩ : ∃ H, H = s.heap := ⟨_, rfl⟩
  obtain ⟨locs, hlocs⟩ : ∃ L : List Loc, L = [] := ⟨_, rfl⟩
  rw [show W p l e (roR 0 0) s m args below meth c s.heap [] 0 0 Q (F0 m 0 ls []) = W p l e (roR 0 0) s m args below meth c H locs 0 0 Q (F0 m 0 ls []) by rw [hH, hlocs]]
  replace hS : va_S A s.heap H locs := by rw [hH, hlocs]; exact hS
  replace hP : va_P D vwCl (w_X2 cI cJ cZ cS od_A od_quarters_A od_tired od_quarters) H := by rw [hH]; exact hP
  clear hH hlocs
  refine lv_iconst (pc := 0) (v := (0 : Int32)) hx hb dX2_startPeople_0 (by decide) ?_
  refine lv_istore_n (pc := 1) (lv' := [(1, .int (0 : Int32)), (0, .ref od_A)]) hx hb dX2_startPeople_1 rfl hl (by decide) rfl (fun ls hl => ?_)
  obtain ⟨k4, hk4, hf⟩ := lc1_e hf
  have K4 : ∀ (od_quarters_5 : Nat → Int32) (H : Heap) (locs : List Loc) (ls : Array Slot), k4 od_quarters_5 = some r_od_quarters → va_P D vwCl (w_X2 cI cJ cZ cS od_A od_quarters_A od_tired od_quarters_5) H → va_D A (w_X2 cI cJ cZ cS od_A od_quarters_A od_tired od_quarters_5) → va_S A s.heap H locs → lv_has ls 2 [] → W p l e (roR 0 0) s m args below meth c H locs 0 0 Q (F0 m 21 ls []) := by
    intro od_quarters_5 H locs ls hf hP hD hS hl
    rw [hk4] at hf
    cases hf
    exact hQ _ _ _ _ dX2_startPeople_21 hP hD hS
  have L2 : ∀ (n : Nat), ∀ (y1 : Int32) (od_quarters_2 : Nat → Int32) (H : Heap) (locs : List Loc) (ls : Array Slot), f_X2_startPeople_L2 k4 n y1 od_quarters_2 = some r_od_quarters → va_P D vwCl (w_X2 cI cJ cZ cS od_A od_quarters_A od_tired od_quarters_2) H → va_D A (w_X2 cI cJ cZ cS od_A od_quarters_A od_tired od_quarters_2) → va_S A s.heap H locs → lv_has ls 2 [(0, .ref od_A), (1, .int y1)] → W p l e (roR 0 0) s m args below meth c H locs 0 0 Q (F0 m 2 ls []) := by
    intro n
    induction n with
    | zero =>
      intro y1 od_quarters_2 H locs ls hf
      rw [f_X2_startPeople_L2] at hf
      cases hf
    | succ n ih =>
      intro y1 od_quarters_2 H locs ls hf hP hD hS hl
      rw [f_X2_startPeople_L2] at hf
      refine lv_iload_n (pc := 2) hx hb dX2_startPeople_2 rfl (lv_at hl 1 rfl) ?_
      refine lv_bipush (pc := 3) (v := (8 : Int32)) hx hb dX2_startPeople_3 (by decide) ?_
      refine r_ic_ge (pc := 5) (tgt := 21) hx hb dX2_startPeople_5 (by decide) hf (fun hf => ?_) (fun hf => ?_)
      · exact K4 _ _ _ _ hf hP hD hS (lv_sub hl [] rfl)
      · refine lv_aload_n (pc := 8) hx hb dX2_startPeople_8 rfl (lv_at hl 0 rfl) ?_
        refine va_get (pc := 9) (D := D) (ci := 2) (v := .ref od_quarters_A) (C := RX2) (T := TX2) (N := 2) hx hb hts inG2 hown hK hP 0 rfl rfl 1 (by decide) (hts _ tw_95) (fun _ h9 => h9) rfl dX2_startPeople_9 ?_
        refine lv_iload_n (pc := 12) hx hb dX2_startPeople_12 rfl (lv_at hl 1 rfl) ?_
        refine lv_iconst (pc := 13) (v := (1 : Int32)) hx hb dX2_startPeople_13 (by decide) ?_
        refine r_iast (pc := 14) hx hb hK hP hD hS 1 0 rfl rfl hf dX2_startPeople_14 (fun od_quarters_6 H locs hf hP hD hS => ?_)
        have hP : va_P D vwCl (w_X2 cI cJ cZ cS od_A od_quarters_A od_tired od_quarters_6) H := hP
        have hD : va_D A (w_X2 cI cJ cZ cS od_A od_quarters_A od_tired od_quarters_6) := hD
        refine lv_iinc (pc := 15) (v := (y1 + (1 : Int32))) (lv' := [(1, .int (y1 + (1 : Int32))), (0, .ref od_A)]) hx hb dX2_startPeople_15 hl (k := 1) rfl (by rfl) (by decide) rfl (fun ls hl => ?_)
        refine lv_goto (pc := 18) (tgt := 2) hx hb dX2_startPeople_18 (by decide) ?_
        exact ih _ _ _ _ _ hf hP hD hS (lv_sub hl [1, 0] rfl)
  exact L2 N _ _ _ _ _ hf hP hD hS (lv_sub hl [1, 0] rfl)
theorem F_X2_copyFrom : CalF yX2_copyFrom cX2_copyFrom 2 none 1 := ⟨tw_678, tw_6, by decide +kernel⟩
set_option maxRecDepth 100000 in
set_option maxHeartbeats 4000000 in
theorem c_X2_copyFrom (l : Launch) (D : va_G) (cI cJ cZ cS : ClassId) (od_A od_quarters_A od2_A od2_quarters_A : Nat) (od_tired : Int32) (od_quarters : Nat → Int32) (od2_tired : Int32) (od2_quarters : Nat → Int32) (sz : Nat) (r_od_tired : Int32) (r_od_quarters : Nat → Int32) (hf : f_X2_copyFrom od_quarters od2_tired od2_quarters = some (r_od_tired, r_od_quarters)) : RwC l D cI cJ cZ cS yX2_copyFrom cX2_copyFrom 2 none 1 64 (w_X2X2 cI cJ cZ cS od_A od_quarters_A od2_A od2_quarters_A od_tired od_quarters od2_tired od2_quarters) sz [.ref od_A, .ref od2_A] none (w_X2X2 cI cJ cZ cS od_A od_quarters_A od2_A od2_quarters_A r_od_tired r_od_quarters od2_tired od2_quarters) := by
  refine rw_in_v (own := RX2) (by decide +kernel) rfl (Nat.le_of_ble_eq_true rfl) ?_
  intro p e s m args below meth c ls Q A E hA hQ hP hD hS hl
  obtain ⟨hx, hb, hml, hown, hts, hK, hN, hAO⟩ := id E
  have hl : lv_has ls 2 [(0, .ref od_A), (1, .ref od2_A)] := hl
  unfold f_X2_copyFrom at hf
  obtain ⟨H, hH⟩ : ∃ H, H = s.heap := ⟨_, rfl⟩
  obtain ⟨locs, hlocs⟩ : ∃ L : List Loc, L = [] := ⟨_, rfl⟩
  rw [show W p l e (roR 1 64) s m args below meth c s.heap [] 0 0 Q (F0 m 0 ls []) = W p l e (roR 1 64) s m args below meth c H locs 0 0 Q (F0 m 0 ls []) by rw [hH, hlocs]]
  replace hS : va_S A s.heap H locs := by rw [hH, hlocs]; exact hS
  replace hP : va_P D vwCl (w_X2X2 cI cJ cZ cS od_A od_quarters_A od2_A od2_quarters_A od_tired od_quarters od2_tired od2_quarters) H := by rw [hH]; exact hP
  clear hH hlocs
  refine lv_aload_n (pc := 0) hx hb dX2_copyFrom_0 rfl (lv_at hl 0 rfl) ?_
  refine lv_aload_n (pc := 1) hx hb dX2_copyFrom_1 rfl (lv_at hl 1 rfl) ?_
  refine va_get (pc := 2) (D := D) (ci := 2) (v := .int od2_tired) (C := RX2) (T := TX2) (N := 2) hx hb hts inG2 hown hK hP 2 rfl rfl 0 (by decide) (hts _ tw_93) (fun _ h9 => h9) rfl dX2_copyFrom_2 ?_
  refine va_put (pc := 5) (D := D) (ci := 2) (v := .int od2_tired) (ty := .int) (C := RX2) (T := TX2) (N := 2) hx hb hts inG2 tyX2 tyX2_ok nmX2 hown hK hP hD hS 0 rfl rfl 0 (by decide) (hts _ tw_93) (fun _ h9 => h9) rfl (by decide +kernel) rfl rfl (Nat.le_of_ble_eq_true rfl) dX2_copyFrom_5 (fun H locs hP hD hS => ?_)
  have hP : va_P D vwCl (w_X2X2 cI cJ cZ cS od_A od_quarters_A od2_A od2_quarters_A od2_tired od_quarters od2_tired od2_quarters) H := hP
  have hD : va_D A (w_X2X2 cI cJ cZ cS od_A od_quarters_A od2_A od2_quarters_A od2_tired od_quarters od2_tired od2_quarters) := hD
  refine lv_aload_n (pc := 8) hx hb dX2_copyFrom_8 rfl (lv_at hl 1 rfl) ?_
  refine va_get (pc := 9) (D := D) (ci := 2) (v := .ref od2_quarters_A) (C := RX2) (T := TX2) (N := 2) hx hb hts inG2 hown hK hP 2 rfl rfl 1 (by decide) (hts _ tw_95) (fun _ h9 => h9) rfl dX2_copyFrom_9 ?_
  refine lv_iconst (pc := 12) (v := (0 : Int32)) hx hb dX2_copyFrom_12 (by decide) ?_
  refine lv_aload_n (pc := 13) hx hb dX2_copyFrom_13 rfl (lv_at hl 0 rfl) ?_
  refine va_get (pc := 14) (D := D) (ci := 2) (v := .ref od_quarters_A) (C := RX2) (T := TX2) (N := 2) hx hb hts inG2 hown hK hP 0 rfl rfl 1 (by decide) (hts _ tw_95) (fun _ h9 => h9) rfl dX2_copyFrom_14 ?_
  refine lv_iconst (pc := 17) (v := (0 : Int32)) hx hb dX2_copyFrom_17 (by decide) ?_
  refine lv_bipush (pc := 18) (v := (8 : Int32)) hx hb dX2_copyFrom_18 (by decide) ?_
  refine va_copyi (pc := 20) hx hb (E.2.2.1.trans hl.1.symm) hown (hts _ tw_679) (hts _ tw_669) (hts _ tw_668) (hts _ tw_13) hK hP hD hS 3 1 0 0 rfl rfl rfl rfl rfl (by decide) (by decide) (by decide) (by decide) (by decide) (fun _ _ => rfl) (by decide) (Nat.le_of_ble_eq_true rfl) dX2_copyFrom_20 (fun H locs hP hD hS => ?_)
  have hP : va_P D vwCl (w_X2X2 cI cJ cZ cS od_A od_quarters_A od2_A od2_quarters_A od2_tired (va_cpy od2_quarters od_quarters 0 0 8) od2_tired od2_quarters) H := hP
  have hD : va_D A (w_X2X2 cI cJ cZ cS od_A od_quarters_A od2_A od2_quarters_A od2_tired (va_cpy od2_quarters od_quarters 0 0 8) od2_tired od2_quarters) := hD
  cases hf
  exact hQ _ _ _ _ dX2_copyFrom_23 hP hD hS
theorem F_X2_changeTired : CalF yX2_changeTired cX2_changeTired 3 (some .int) 1 := ⟨tw_496, tw_6, by decide +kernel⟩
set_option maxRecDepth 100000 in
set_option maxHeartbeats 4000000 in
theorem c_X2_changeTired (l : Launch) (D : va_G) (cI cJ cZ cS : ClassId) (od_A od_quarters_A : Nat) (od_tired : Int32) (od_quarters : Nat → Int32) (p1 : Int32) (sz : Nat) (r : Int32) (r_od_tired : Int32) (hf : f_X2_changeTired od_tired p1 = some (r, r_od_tired)) : RwC l D cI cJ cZ cS yX2_changeTired cX2_changeTired 3 (some .int) 0 0 (w_X2 cI cJ cZ cS od_A od_quarters_A od_tired od_quarters) sz [.ref od_A, .int p1] (some (.int r)) (w_X2 cI cJ cZ cS od_A od_quarters_A r_od_tired od_quarters) := by
  refine rw_in_i (own := RX2) (by decide +kernel) rfl (Nat.le_of_ble_eq_true rfl) ?_
  intro p e s m args below meth c ls Q A E hA hQ hP hD hS hl
  obtain ⟨hx, hb, hml, hown, hts, hK, hN, hAO⟩ := id E
  have hl : lv_has ls 3 [(0, .ref od_A), (1, .int p1)] := hl
  unfold f_X2_changeTired at hf
  obtain ⟨H, hH⟩ : ∃ H, H = s.heap := ⟨_, rfl⟩
  obtain ⟨locs, hlocs⟩ : ∃ L : List Loc, L = [] := ⟨_, rfl⟩
  rw [show W p l e (roR 0 0) s m args below meth c s.heap [] 0 0 Q (F0 m 0 ls []) = W p l e (roR 0 0) s m args below meth c H locs 0 0 Q (F0 m 0 ls []) by rw [hH, hlocs]]
  replace hS : va_S A s.heap H locs := by rw [hH, hlocs]; exact hS
  replace hP : va_P D vwCl (w_X2 cI cJ cZ cS od_A od_quarters_A od_tired od_quarters) H := by rw [hH]; exact hP
  clear hH hlocs
  refine lv_aload_n (pc := 0) hx hb dX2_changeTired_0 rfl (lv_at hl 0 rfl) ?_
  refine va_get (pc := 1) (D := D) (ci := 2) (v := .int od_tired) (C := RX2) (T := TX2) (N := 2) hx hb hts inG2 hown hK hP 0 rfl rfl 0 (by decide) (hts _ tw_93) (fun _ h9 => h9) rfl dX2_changeTired_1 ?_
  refine lv_istore_n (pc := 4) (lv' := [(2, .int od_tired), (0, .ref od_A), (1, .int p1)]) hx hb dX2_changeTired_4 rfl hl (by decide) rfl (fun ls hl => ?_)
  refine lv_aload_n (pc := 5) hx hb dX2_changeTired_5 rfl (lv_at hl 1 rfl) ?_
  refine lv_iload_n (pc := 6) hx hb dX2_changeTired_6 rfl (lv_at hl 2 rfl) ?_
  refine va_put (pc := 7) (D := D) (ci := 2) (v := .int p1) (ty := .int) (C := RX2) (T := TX2) (N := 2) hx hb hts inG2 tyX2 tyX2_ok nmX2 hown hK hP hD hS 0 rfl rfl 0 (by decide) (hts _ tw_93) (fun _ h9 => h9) rfl (by decide +kernel) rfl rfl (Nat.le_of_ble_eq_true rfl) dX2_changeTired_7 (fun H locs hP hD hS => ?_)
  have hP : va_P D vwCl (w_X2 cI cJ cZ cS od_A od_quarters_A p1 od_quarters) H := hP
  have hD : va_D A (w_X2 cI cJ cZ cS od_A od_quarters_A p1 od_quarters) := hD
  refine lv_iload_n (pc := 10) hx hb dX2_changeTired_10 rfl (lv_at hl 0 rfl) ?_
  cases hf
  exact hQ _ _ _ _ _ dX2_changeTired_11 rfl hP hD hS
theorem F_X2_changeQuarters : CalF yX2_changeQuarters cX2_changeQuarters 4 (some .int) 2 := ⟨tw_500, tw_6, by decide +kernel⟩
set_option maxRecDepth 100000 in
set_option maxHeartbeats 4000000 in
theorem c_X2_changeQuarters (l : Launch) (D : va_G) (cI cJ cZ cS : ClassId) (od_A od_quarters_A : Nat) (od_tired : Int32) (od_quarters : Nat → Int32) (p1 : Int32) (p2 : Int32) (sz : Nat) (r : Int32) (r_od_quarters : Nat → Int32) (hf : f_X2_changeQuarters od_quarters p1 p2 = some (r, r_od_quarters)) : RwC l D cI cJ cZ cS yX2_changeQuarters cX2_changeQuarters 4 (some .int) 0 0 (w_X2 cI cJ cZ cS od_A od_quarters_A od_tired od_quarters) sz [.ref od_A, .int p1, .int p2] (some (.int r)) (w_X2 cI cJ cZ cS od_A od_quarters_A od_tired r_od_quarters) := by
  refine rw_in_i (own := RX2) (by decide +kernel) rfl (Nat.le_of_ble_eq_true rfl) ?_
  intro p e s m args below meth c ls Q A E hA hQ hP hD hS hl
  obtain ⟨hx, hb, hml, hown, hts, hK, hN, hAO⟩ := id E
  have hl : lv_has ls 4 [(0, .ref od_A), (1, .int p1), (2, .int p2)] := hl
  unfold f_X2_changeQuarters at hf
  obtain ⟨H, hH⟩ : ∃ H, H = s.heap := ⟨_, rfl⟩
  obtain ⟨locs, hlocs⟩ : ∃ L : List Loc, L = [] := ⟨_, rfl⟩
  rw [show W p l e (roR 0 0) s m args below meth c s.heap [] 0 0 Q (F0 m 0 ls []) = W p l e (roR 0 0) s m args below meth c H locs 0 0 Q (F0 m 0 ls []) by rw [hH, hlocs]]
  replace hS : va_S A s.heap H locs := by rw [hH, hlocs]; exact hS
  replace hP : va_P D vwCl (w_X2 cI cJ cZ cS od_A od_quarters_A od_tired od_quarters) H := by rw [hH]; exact hP
  clear hH hlocs
  refine lv_aload_n (pc := 0) hx hb dX2_changeQuarters_0 rfl (lv_at hl 0 rfl) ?_
  refine va_get (pc := 1) (D := D) (ci := 2) (v := .ref od_quarters_A) (C := RX2) (T := TX2) (N := 2) hx hb hts inG2 hown hK hP 0 rfl rfl 1 (by decide) (hts _ tw_95) (fun _ h9 => h9) rfl dX2_changeQuarters_1 ?_
  refine lv_iload_n (pc := 4) hx hb dX2_changeQuarters_4 rfl (lv_at hl 1 rfl) ?_
  refine r_iald (pc := 5) hx hb hK hP 1 0 rfl rfl hf dX2_changeQuarters_5 (fun v1 hf => ?_)
  refine lv_istore_n (pc := 6) (lv' := [(3, .int v1), (0, .ref od_A), (1, .int p1), (2, .int p2)]) hx hb dX2_changeQuarters_6 rfl hl (by decide) rfl (fun ls hl => ?_)
  refine lv_aload_n (pc := 7) hx hb dX2_changeQuarters_7 rfl (lv_at hl 1 rfl) ?_
  refine va_get (pc := 8) (D := D) (ci := 2) (v := .ref od_quarters_A) (C := RX2) (T := TX2) (N := 2) hx hb hts inG2 hown hK hP 0 rfl rfl 1 (by decide) (hts _ tw_95) (fun _ h9 => h9) rfl dX2_changeQuarters_8 ?_
  refine lv_iload_n (pc := 11) hx hb dX2_changeQuarters_11 rfl (lv_at hl 2 rfl) ?_
  refine lv_iload_n (pc := 12) hx hb dX2_changeQuarters_12 rfl (lv_at hl 3 rfl) ?_
  refine r_iast (pc := 13) hx hb hK hP hD hS 1 0 rfl rfl hf dX2_changeQuarters_13 (fun od_quarters_2 H locs hf hP hD hS => ?_)
  have hP : va_P D vwCl (w_X2 cI cJ cZ cS od_A od_quarters_A od_tired od_quarters_2) H := hP
  have hD : va_D A (w_X2 cI cJ cZ cS od_A od_quarters_A od_tired od_quarters_2) := hD
  refine lv_iload_n (pc := 14) hx hb dX2_changeQuarters_14 rfl (lv_at hl 0 rfl) ?_
  cases hf
  exact hQ _ _ _ _ _ dX2_changeQuarters_15 rfl hP hD hS
theorem F_X2_quartersOf : CalF yX2_quartersOf cX2_quartersOf 2 (some .int) 1 := ⟨tw_700, tw_6, by decide +kernel⟩
set_option maxRecDepth 100000 in
set_option maxHeartbeats 4000000 in
theorem c_X2_quartersOf (l : Launch) (D : va_G) (cI cJ cZ cS : ClassId) (od_A od_quarters_A : Nat) (od_tired : Int32) (od_quarters : Nat → Int32) (p1 : Int32) (r : Int32) (hf : f_X2_quartersOf od_quarters p1 = some r) : RoC l D cI cJ cZ cS yX2_quartersOf cX2_quartersOf 2 (some .int) 0 0 (w_X2 cI cJ cZ cS od_A od_quarters_A od_tired od_quarters) [.ref od_A, .int p1] (some (.int r)) := by
  refine ro_in_i (own := RX2) (by decide +kernel) rfl (Nat.le_of_ble_eq_true rfl) ?_
  intro p e s m args below meth c ls Q E hQ hP hl
  obtain ⟨hx, hb, hml, hown, hts, hK, hN, hAO⟩ := id E
  have hl : lv_has ls 2 [(0, .ref od_A), (1, .int p1)] := hl
  unfold f_X2_quartersOf at hf
  refine lv_aload_n (pc := 0) hx hb dX2_quartersOf_0 rfl (lv_at hl 0 rfl) ?_
  refine va_get (pc := 1) (D := D) (ci := 2) (v := .ref od_quarters_A) (C := RX2) (T := TX2) (N := 2) hx hb hts inG2 hown hK hP 0 rfl rfl 1 (by decide) (hts _ tw_95) (fun _ h9 => h9) rfl dX2_quartersOf_1 ?_
  refine lv_iload_n (pc := 4) hx hb dX2_quartersOf_4 rfl (lv_at hl 1 rfl) ?_
  refine r_iald (pc := 5) hx hb hK hP 1 0 rfl rfl hf dX2_quartersOf_5 (fun v1 hf => ?_)
  exact hQ _ _ _ dX2_quartersOf_6 hf
theorem F_X2_quartersIn : CalF yX2_quartersIn cX2_quartersIn 3 (some .int) 2 := ⟨tw_513, tw_6, by decide +kernel⟩
set_option maxRecDepth 100000 in
set_option maxHeartbeats 4000000 in
theorem c_X2_quartersIn (l : Launch) (D : va_G) (cI cJ cZ cS : ClassId) (od_A od_quarters_A : Nat) (od_tired : Int32) (od_quarters : Nat → Int32) (p1 : Int32) (p2 : Int32) (r : Int32) (hf : f_X2_quartersIn od_tired od_quarters p1 p2 = some r) : RoC l D cI cJ cZ cS yX2_quartersIn cX2_quartersIn 3 (some .int) 1 21 (w_X2 cI cJ cZ cS od_A od_quarters_A od_tired od_quarters) [.ref od_A, .int p1, .int p2] (some (.int r)) := by
  refine ro_in_i (own := RX2) (by decide +kernel) rfl (Nat.le_of_ble_eq_true rfl) ?_
  intro p e s m args below meth c ls Q E hQ hP hl
  obtain ⟨hx, hb, hml, hown, hts, hK, hN, hAO⟩ := id E
  have hl : lv_has ls 3 [(0, .ref od_A), (1, .int p1), (2, .int p2)] := hl
  unfold f_X2_quartersIn at hf
  refine lv_iload_n (pc := 0) hx hb dX2_quartersIn_0 rfl (lv_at hl 1 rfl) ?_
  refine lv_aload_n (pc := 1) hx hb dX2_quartersIn_1 rfl (lv_at hl 0 rfl) ?_
  refine va_get (pc := 2) (D := D) (ci := 2) (v := .int od_tired) (C := RX2) (T := TX2) (N := 2) hx hb hts inG2 hown hK hP 0 rfl rfl 0 (by decide) (hts _ tw_93) (fun _ h9 => h9) rfl dX2_quartersIn_2 ?_
  refine r_ic_ge (pc := 5) (tgt := 17) hx hb dX2_quartersIn_5 (by decide) hf (fun hf => ?_) (fun hf => ?_)
  · refine lv_iconst (pc := 17) (v := (4 : Int32)) hx hb dX2_quartersIn_17 (by decide) ?_
    refine lv_aload_n (pc := 18) hx hb dX2_quartersIn_18 rfl (lv_at hl 0 rfl) ?_
    refine va_get (pc := 19) (D := D) (ci := 2) (v := .ref od_quarters_A) (C := RX2) (T := TX2) (N := 2) hx hb hts inG2 hown hK hP 0 rfl rfl 1 (by decide) (hts _ tw_95) (fun _ h9 => h9) rfl dX2_quartersIn_19 ?_
    refine lv_iload_n (pc := 22) hx hb dX2_quartersIn_22 rfl (lv_at hl 2 rfl) ?_
    refine r_iald (pc := 23) hx hb hK hP 1 0 rfl rfl hf dX2_quartersIn_23 (fun v1 hf => ?_)
    refine lv_iconst (pc := 24) (v := (1 : Int32)) hx hb dX2_quartersIn_24 (by decide) ?_
    refine lv_iadd (pc := 25) hx hb dX2_quartersIn_25 ?_
    refine r_mmin (pc := 26) E hl.1 tw_514 tw_280 tw_11 tw_281 (by decide) (Nat.le_of_ble_eq_true rfl) (by decide) (by decide) dX2_quartersIn_26 ?_
    exact hQ _ _ _ dX2_quartersIn_29 hf
  · refine lv_aload_n (pc := 8) hx hb dX2_quartersIn_8 rfl (lv_at hl 0 rfl) ?_
    refine va_get (pc := 9) (D := D) (ci := 2) (v := .ref od_quarters_A) (C := RX2) (T := TX2) (N := 2) hx hb hts inG2 hown hK hP 0 rfl rfl 1 (by decide) (hts _ tw_95) (fun _ h9 => h9) rfl dX2_quartersIn_9 ?_
    refine lv_iload_n (pc := 12) hx hb dX2_quartersIn_12 rfl (lv_at hl 2 rfl) ?_
    refine r_iald (pc := 13) hx hb hK hP 1 0 rfl rfl hf dX2_quartersIn_13 (fun v2 hf => ?_)
    refine lv_goto (pc := 14) (tgt := 29) hx hb dX2_quartersIn_14 (by decide) ?_
    exact hQ _ _ _ dX2_quartersIn_29 hf
theorem F_X2_waysAllOpen : CalF yX2_waysAllOpen cX2_waysAllOpen 6 (some .long) 2 := ⟨tw_509, tw_6, by decide +kernel⟩
set_option maxRecDepth 100000 in
set_option maxHeartbeats 4000000 in
theorem c_X2_waysAllOpen (l : Launch) (D : va_G) (cI cJ cZ cS : ClassId) (N : Nat) (od_A od_quarters_A : Nat) (od_tired : Int32) (od_quarters : Nat → Int32) (p1 : Int32) (p2 : Int32) (r : Int64) (hf : f_X2_waysAllOpen N od_tired od_quarters p1 p2 = some r) : RoC l D cI cJ cZ cS yX2_waysAllOpen cX2_waysAllOpen 6 (some .long) 2 43 (w_X2 cI cJ cZ cS od_A od_quarters_A od_tired od_quarters) [.ref od_A, .int p1, .int p2] (some (.long r)) := by
  refine ro_in_l (own := RX2) (by decide +kernel) rfl (Nat.le_of_ble_eq_true rfl) ?_
  intro p e s m args below meth c ls Q E hQ hP hl
  obtain ⟨hx, hb, hml, hown, hts, hK, hN, hAO⟩ := id E
  have hl : lv_has ls 6 [(0, .ref od_A), (1, .int p1), (2, .int p2)] := hl
  unfold f_X2_waysAllOpen at hf
  refine lv_lconst (pc := 0) (v := (1 : Int64)) hx hb dX2_waysAllOpen_0 (by decide) ?_
  refine lv_lstore_n (pc := 1) (lv' := [(3, .long (1 : Int64)), (0, .ref od_A), (1, .int p1), (2, .int p2)]) hx hb dX2_waysAllOpen_1 rfl hl (by decide) rfl (fun ls hl => ?_)
  refine lv_iconst (pc := 2) (v := (0 : Int32)) hx hb dX2_waysAllOpen_2 (by decide) ?_
  refine lv_istore (pc := 3) (lv' := [(5, .int (0 : Int32)), (3, .long (1 : Int64)), (0, .ref od_A), (1, .int p1), (2, .int p2)]) hx hb dX2_waysAllOpen_3 hl (by decide) rfl (fun ls hl => ?_)
  obtain ⟨k4, hk4, hf⟩ := lc1_e hf
  have K4 : ∀ (z5 : Int64) (ls : Array Slot), k4 z5 = some r → lv_has ls 6 [(3, .long z5)] → W p l e (roR 2 43) s m args below meth c s.heap [] 0 0 Q (F0 m 30 ls []) := by
    intro z5 ls hf hl
    rw [hk4] at hf
    refine lv_lload_n (pc := 30) hx hb dX2_waysAllOpen_30 rfl (lv_at hl 0 rfl) ?_
    exact hQ _ _ _ dX2_waysAllOpen_31 hf
  have L5 : ∀ (n : Nat), ∀ (y1 : Int64) (y2 : Int32) (ls : Array Slot), f_X2_waysAllOpen_L5 od_tired od_quarters p1 p2 k4 n y1 y2 = some r → lv_has ls 6 [(0, .ref od_A), (1, .int p1), (2, .int p2), (3, .long y1), (5, .int y2)] → W p l e (roR 2 43) s m args below meth c s.heap [] 0 0 Q (F0 m 5 ls []) := by
    intro n
    induction n with
    | zero =>
      intro y1 y2 ls hf
      rw [f_X2_waysAllOpen_L5] at hf
      cases hf
    | succ n ih =>
      intro y1 y2 ls hf hl
      rw [f_X2_waysAllOpen_L5] at hf
      refine lv_iload (pc := 5) hx hb dX2_waysAllOpen_5 (lv_at hl 4 rfl) ?_
      refine lv_iload_n (pc := 7) hx hb dX2_waysAllOpen_7 rfl (lv_at hl 2 rfl) ?_
      refine r_ic_ge (pc := 8) (tgt := 30) hx hb dX2_waysAllOpen_8 (by decide) hf (fun hf => ?_) (fun hf => ?_)
      · exact K4 _ _ hf (lv_sub hl [3] rfl)
      · refine lv_lload_n (pc := 11) hx hb dX2_waysAllOpen_11 rfl (lv_at hl 3 rfl) ?_
        refine lv_iconst (pc := 12) (v := (4 : Int32)) hx hb dX2_waysAllOpen_12 (by decide) ?_
        refine lv_aload_n (pc := 13) hx hb dX2_waysAllOpen_13 rfl (lv_at hl 0 rfl) ?_
        refine lv_iload_n (pc := 14) hx hb dX2_waysAllOpen_14 rfl (lv_at hl 1 rfl) ?_
        refine lv_iload (pc := 15) hx hb dX2_waysAllOpen_15 (lv_at hl 4 rfl) ?_
        obtain ⟨v6, hv17, hf⟩ := bd_e hf
        refine ro_Vi (pc := 17) (As := [.int p1, .int y2]) (rest := [.int (4 : Int32), .long y1]) E (c_X2_quartersIn l D cI cJ cZ cS od_A od_quarters_A od_tired od_quarters p1 y2 v6 hv17) F_X2_quartersIn rfl rfl tw_510 tw_512 tp_12 hP ⟨by decide, by decide⟩ rfl hl.1 (Nat.le_of_ble_eq_true rfl) ⟨by decide, by decide⟩ rfl dX2_waysAllOpen_17 ?_
        refine lv_isub (pc := 20) hx hb dX2_waysAllOpen_20 ?_
        refine lv_i2l (pc := 21) (v := (Int32.toInt64 ((4 : Int32) - v6))) hx hb dX2_waysAllOpen_21 rfl ?_
        refine lv_lmul (pc := 22) hx hb dX2_waysAllOpen_22 ?_
        refine lv_lstore_n (pc := 23) (lv' := [(3, .long (y1 * (Int32.toInt64 ((4 : Int32) - v6)))), (0, .ref od_A), (1, .int p1), (2, .int p2), (5, .int y2)]) hx hb dX2_waysAllOpen_23 rfl hl (by decide) rfl (fun ls hl => ?_)
        refine lv_iinc (pc := 24) (v := (y2 + (1 : Int32))) (lv' := [(5, .int (y2 + (1 : Int32))), (3, .long (y1 * (Int32.toInt64 ((4 : Int32) - v6)))), (0, .ref od_A), (1, .int p1), (2, .int p2)]) hx hb dX2_waysAllOpen_24 hl (k := 4) rfl (by rfl) (by decide) rfl (fun ls hl => ?_)
        refine lv_goto (pc := 27) (tgt := 5) hx hb dX2_waysAllOpen_27 (by decide) ?_
        exact ih _ _ _ hf (lv_sub hl [2, 3, 4, 1, 0] rfl)
  exact L5 N _ _ _ hf (lv_sub hl [2, 3, 4, 1, 0] rfl)
theorem F_X2_waysOneOf : CalF yX2_waysOneOf cX2_waysOneOf 6 (some .long) 2 := ⟨tw_529, tw_6, by decide +kernel⟩
set_option maxRecDepth 100000 in
set_option maxHeartbeats 4000000 in
theorem c_X2_waysOneOf (l : Launch) (D : va_G) (cI cJ cZ cS : ClassId) (N : Nat) (od_A od_quarters_A : Nat) (od_tired : Int32) (od_quarters : Nat → Int32) (p1 : Int32) (p2 : Int32) (r : Int64) (hf : f_X2_waysOneOf N od_tired od_quarters p1 p2 = some r) : RoC l D cI cJ cZ cS yX2_waysOneOf cX2_waysOneOf 6 (some .long) 3 68 (w_X2 cI cJ cZ cS od_A od_quarters_A od_tired od_quarters) [.ref od_A, .int p1, .int p2] (some (.long r)) := by
  refine ro_in_l (own := RX2) (by decide +kernel) rfl (Nat.le_of_ble_eq_true rfl) ?_
  intro p e s m args below meth c ls Q E hQ hP hl
  obtain ⟨hx, hb, hml, hown, hts, hK, hN, hAO⟩ := id E
  have hl : lv_has ls 6 [(0, .ref od_A), (1, .int p1), (2, .int p2)] := hl
  unfold f_X2_waysOneOf at hf
  refine lv_lconst (pc := 0) (v := (1 : Int64)) hx hb dX2_waysOneOf_0 (by decide) ?_
  refine lv_lstore_n (pc := 1) (lv' := [(3, .long (1 : Int64)), (0, .ref od_A), (1, .int p1), (2, .int p2)]) hx hb dX2_waysOneOf_1 rfl hl (by decide) rfl (fun ls hl => ?_)
  refine lv_iconst (pc := 2) (v := (0 : Int32)) hx hb dX2_waysOneOf_2 (by decide) ?_
  refine lv_istore (pc := 3) (lv' := [(5, .int (0 : Int32)), (3, .long (1 : Int64)), (0, .ref od_A), (1, .int p1), (2, .int p2)]) hx hb dX2_waysOneOf_3 hl (by decide) rfl (fun ls hl => ?_)
  obtain ⟨k4, hk4, hf⟩ := lc1_e hf
  have K4 : ∀ (z5 : Int64) (ls : Array Slot), k4 z5 = some r → lv_has ls 6 [(1, .int p1), (2, .int p2), (3, .long z5)] → W p l e (roR 3 68) s m args below meth c s.heap [] 0 0 Q (F0 m 33 ls []) := by
    intro z5 ls hf hl
    rw [hk4] at hf
    refine lv_iload_n (pc := 33) hx hb dX2_waysOneOf_33 rfl (lv_at hl 0 rfl) ?_
    refine lv_iload_n (pc := 34) hx hb dX2_waysOneOf_34 rfl (lv_at hl 1 rfl) ?_
    obtain ⟨v8, hv35, hf⟩ := bd_e hf
    refine ro_Sl (pc := 35) (As := [.int p1, .int p2]) (rest := []) E (c_X2_waysOf l D cI cJ cZ cS p1 p2 v8 hv35) F_X2_waysOf tw_530 tw_516  va_P_nil ⟨by decide, by decide⟩ rfl hl.1 (Nat.le_of_ble_eq_true rfl) ⟨by decide, by decide⟩ rfl dX2_waysOneOf_35 ?_
    refine lv_lload_n (pc := 38) hx hb dX2_waysOneOf_38 rfl (lv_at hl 2 rfl) ?_
    refine lv_lsub (pc := 39) hx hb dX2_waysOneOf_39 ?_
    exact hQ _ _ _ dX2_waysOneOf_40 hf
  have L5 : ∀ (n : Nat), ∀ (y1 : Int64) (y2 : Int32) (ls : Array Slot), f_X2_waysOneOf_L5 od_tired od_quarters p1 p2 N k4 n y1 y2 = some r → lv_has ls 6 [(0, .ref od_A), (1, .int p1), (2, .int p2), (3, .long y1), (5, .int y2)] → W p l e (roR 3 68) s m args below meth c s.heap [] 0 0 Q (F0 m 5 ls []) := by
    intro n
    induction n with
    | zero =>
      intro y1 y2 ls hf
      rw [f_X2_waysOneOf_L5] at hf
      cases hf
    | succ n ih =>
      intro y1 y2 ls hf hl
      rw [f_X2_waysOneOf_L5] at hf
      refine lv_iload (pc := 5) hx hb dX2_waysOneOf_5 (lv_at hl 4 rfl) ?_
      refine lv_iload_n (pc := 7) hx hb dX2_waysOneOf_7 rfl (lv_at hl 1 rfl) ?_
      refine r_ic_ge (pc := 8) (tgt := 33) hx hb dX2_waysOneOf_8 (by decide) hf (fun hf => ?_) (fun hf => ?_)
      · exact K4 _ _ hf (lv_sub hl [1, 2, 3] rfl)
      · refine lv_lload_n (pc := 11) hx hb dX2_waysOneOf_11 rfl (lv_at hl 3 rfl) ?_
        refine lv_iconst (pc := 12) (v := (1 : Int32)) hx hb dX2_waysOneOf_12 (by decide) ?_
        refine lv_iload_n (pc := 13) hx hb dX2_waysOneOf_13 rfl (lv_at hl 2 rfl) ?_
        obtain ⟨v6, hv14, hf⟩ := bd_e hf
        refine ro_Sl (pc := 14) (As := [.int (1 : Int32), .int p2]) (rest := [.long y1]) E (c_X2_waysOf l D cI cJ cZ cS (1 : Int32) p2 v6 hv14) F_X2_waysOf tw_530 tw_516  va_P_nil ⟨by decide, by decide⟩ rfl hl.1 (Nat.le_of_ble_eq_true rfl) ⟨by decide, by decide⟩ rfl dX2_waysOneOf_14 ?_
        refine lv_aload_n (pc := 17) hx hb dX2_waysOneOf_17 rfl (lv_at hl 0 rfl) ?_
        refine lv_iload (pc := 18) hx hb dX2_waysOneOf_18 (lv_at hl 4 rfl) ?_
        refine lv_iload_n (pc := 20) hx hb dX2_waysOneOf_20 rfl (lv_at hl 2 rfl) ?_
        obtain ⟨v7, hv21, hf⟩ := bd_e hf
        refine ro_Vl (pc := 21) (As := [.int y2, .int p2]) (rest := [.long v6, .long y1]) E (c_X2_waysAllOpen l D cI cJ cZ cS N od_A od_quarters_A od_tired od_quarters y2 p2 v7 hv21) F_X2_waysAllOpen rfl rfl tw_531 tw_507 tw_508 hP ⟨by decide, by decide⟩ rfl hl.1 (Nat.le_of_ble_eq_true rfl) ⟨by decide, by decide⟩ rfl dX2_waysOneOf_21 ?_
        refine lv_lsub (pc := 24) hx hb dX2_waysOneOf_24 ?_
        refine lv_lmul (pc := 25) hx hb dX2_waysOneOf_25 ?_
        refine lv_lstore_n (pc := 26) (lv' := [(3, .long (y1 * (v6 - v7))), (0, .ref od_A), (1, .int p1), (2, .int p2), (5, .int y2)]) hx hb dX2_waysOneOf_26 rfl hl (by decide) rfl (fun ls hl => ?_)
        refine lv_iinc (pc := 27) (v := (y2 + (1 : Int32))) (lv' := [(5, .int (y2 + (1 : Int32))), (3, .long (y1 * (v6 - v7))), (0, .ref od_A), (1, .int p1), (2, .int p2)]) hx hb dX2_waysOneOf_27 hl (k := 4) rfl (by rfl) (by decide) rfl (fun ls hl => ?_)
        refine lv_goto (pc := 30) (tgt := 5) hx hb dX2_waysOneOf_30 (by decide) ?_
        exact ih _ _ _ hf (lv_sub hl [2, 3, 4, 1, 0] rfl)
  exact L5 N _ _ _ hf (lv_sub hl [2, 3, 4, 1, 0] rfl)
theorem F_X2_drawShots : CalF yX2_drawShots cX2_drawShots 9 (some .int) 3 := ⟨tw_543, tw_6, by decide +kernel⟩
set_option maxRecDepth 100000 in
set_option maxHeartbeats 4000000 in
theorem c_X2_drawShots (l : Launch) (D : va_G) (cI cJ cZ cS : ClassId) (N : Nat) (od_A od_quarters_A : Nat) (od_tired : Int32) (od_quarters : Nat → Int32) (p1 : Int32) (p2 : Int32) (p3 : Int32) (r : Int32) (hf : f_X2_drawShots N od_tired od_quarters p1 p2 p3 = some r) : RoC l D cI cJ cZ cS yX2_drawShots cX2_drawShots 9 (some .int) 2 43 (w_X2 cI cJ cZ cS od_A od_quarters_A od_tired od_quarters) [.ref od_A, .int p1, .int p2, .int p3] (some (.int r)) := by
  refine ro_in_i (own := RX2) (by decide +kernel) rfl (Nat.le_of_ble_eq_true rfl) ?_
  intro p e s m args below meth c ls Q E hQ hP hl
  obtain ⟨hx, hb, hml, hown, hts, hK, hN, hAO⟩ := id E
  have hl : lv_has ls 9 [(0, .ref od_A), (1, .int p1), (2, .int p2), (3, .int p3)] := hl
  unfold f_X2_drawShots at hf
  refine lv_iconst (pc := 0) (v := (0 : Int32)) hx hb dX2_drawShots_0 (by decide) ?_
  refine lv_istore (pc := 1) (lv' := [(4, .int (0 : Int32)), (0, .ref od_A), (1, .int p1), (2, .int p2), (3, .int p3)]) hx hb dX2_drawShots_1 hl (by decide) rfl (fun ls hl => ?_)
  refine lv_iload_n (pc := 3) hx hb dX2_drawShots_3 rfl (lv_at hl 2 rfl) ?_
  refine lv_istore (pc := 4) (lv' := [(5, .int p1), (4, .int (0 : Int32)), (0, .ref od_A), (1, .int p1), (2, .int p2), (3, .int p3)]) hx hb dX2_drawShots_4 hl (by decide) rfl (fun ls hl => ?_)
  refine lv_iconst (pc := 6) (v := (0 : Int32)) hx hb dX2_drawShots_6 (by decide) ?_
  refine lv_istore (pc := 7) (lv' := [(6, .int (0 : Int32)), (5, .int p1), (4, .int (0 : Int32)), (0, .ref od_A), (1, .int p1), (2, .int p2), (3, .int p3)]) hx hb dX2_drawShots_7 hl (by decide) rfl (fun ls hl => ?_)
  obtain ⟨k5, hk5, hf⟩ := lc1_e hf
  have K5 : ∀ (z6 : Int32) (ls : Array Slot), k5 z6 = some r → lv_has ls 9 [(4, .int z6)] → W p l e (roR 2 43) s m args below meth c s.heap [] 0 0 Q (F0 m 84 ls []) := by
    intro z6 ls hf hl
    rw [hk5] at hf
    refine lv_iload (pc := 84) hx hb dX2_drawShots_84 (lv_at hl 0 rfl) ?_
    exact hQ _ _ _ dX2_drawShots_86 hf
  have L9 : ∀ (n : Nat), ∀ (y1 : Int32) (y2 : Int32) (y3 : Int32) (ls : Array Slot), f_X2_drawShots_L9 od_tired od_quarters p2 p3 N k5 n y1 y2 y3 = some r → lv_has ls 9 [(0, .ref od_A), (2, .int p2), (3, .int p3), (4, .int y1), (5, .int y2), (6, .int y3)] → W p l e (roR 2 43) s m args below meth c s.heap [] 0 0 Q (F0 m 9 ls []) := by
    intro n
    induction n with
    | zero =>
      intro y1 y2 y3 ls hf
      rw [f_X2_drawShots_L9] at hf
      cases hf
    | succ n ih =>
      intro y1 y2 y3 ls hf hl
      rw [f_X2_drawShots_L9] at hf
      refine lv_iload (pc := 9) hx hb dX2_drawShots_9 (lv_at hl 5 rfl) ?_
      refine lv_iload_n (pc := 11) hx hb dX2_drawShots_11 rfl (lv_at hl 1 rfl) ?_
      refine r_ic_ge (pc := 12) (tgt := 84) hx hb dX2_drawShots_12 (by decide) hf (fun hf => ?_) (fun hf => ?_)
      · exact K5 _ _ hf (lv_sub hl [3] rfl)
      · refine lv_iconst (pc := 15) (v := (1 : Int32)) hx hb dX2_drawShots_15 (by decide) ?_
        refine lv_istore (pc := 16) (lv' := [(7, .int (1 : Int32)), (0, .ref od_A), (2, .int p2), (3, .int p3), (4, .int y1), (5, .int y2), (6, .int y3)]) hx hb dX2_drawShots_16 hl (by decide) rfl (fun ls hl => ?_)
        refine lv_iconst (pc := 18) (v := (0 : Int32)) hx hb dX2_drawShots_18 (by decide) ?_
        refine lv_istore (pc := 19) (lv' := [(8, .int (0 : Int32)), (7, .int (1 : Int32)), (0, .ref od_A), (2, .int p2), (3, .int p3), (4, .int y1), (5, .int y2), (6, .int y3)]) hx hb dX2_drawShots_19 hl (by decide) rfl (fun ls hl => ?_)
        obtain ⟨k11, hk11, hf⟩ := lc2_e hf
        have K11 : ∀ (z12 : Int32) (z13 : Int32) (ls : Array Slot), k11 z12 z13 = some r → lv_has ls 9 [(0, .ref od_A), (2, .int p2), (3, .int p3), (4, .int y1), (5, .int z12), (6, .int y3), (7, .int z13)] → W p l e (roR 2 43) s m args below meth c s.heap [] 0 0 Q (F0 m 64 ls []) := by
          intro z12 z13 ls hf hl
          rw [hk11] at hf
          refine lv_iload (pc := 64) hx hb dX2_drawShots_64 (lv_at hl 6 rfl) ?_
          obtain ⟨k19, hk19, hf⟩ := lc1_e hf
          have K19 : ∀ (x20 : Int32) (ls : Array Slot), k19 x20 = some r → lv_has ls 9 [(0, .ref od_A), (2, .int p2), (3, .int p3), (4, .int x20), (5, .int z12), (6, .int y3)] → W p l e (roR 2 43) s m args below meth c s.heap [] 0 0 Q (F0 m 78 ls []) := by
            intro x20 ls hf hl
            rw [hk19] at hf
            refine lv_iinc (pc := 78) (v := (y3 + (1 : Int32))) (lv' := [(6, .int (y3 + (1 : Int32))), (0, .ref od_A), (2, .int p2), (3, .int p3), (4, .int x20), (5, .int z12)]) hx hb dX2_drawShots_78 hl (k := 5) rfl (by rfl) (by decide) rfl (fun ls hl => ?_)
            refine lv_goto (pc := 81) (tgt := 9) hx hb dX2_drawShots_81 (by decide) ?_
            exact ih _ _ _ _ hf (lv_sub hl [1, 2, 3, 4, 5, 0] rfl)
          refine r_if_eq (pc := 66) (tgt := 78) hx hb dX2_drawShots_66 (by decide) hf (fun hf => ?_) (fun hf => ?_)
          · exact K19 _ _ hf (lv_sub hl [0, 1, 2, 3, 4, 5] rfl)
          · refine lv_iload (pc := 69) hx hb dX2_drawShots_69 (lv_at hl 3 rfl) ?_
            refine lv_iconst (pc := 71) (v := (1 : Int32)) hx hb dX2_drawShots_71 (by decide) ?_
            refine lv_iload (pc := 72) hx hb dX2_drawShots_72 (lv_at hl 5 rfl) ?_
            refine lv_ishl (pc := 74) hx hb dX2_drawShots_74 ?_
            refine lv_ior (pc := 75) hx hb dX2_drawShots_75 ?_
            refine lv_istore (pc := 76) (lv' := [(4, .int (y1 ||| ((1 : Int32) <<< (y3 &&& 31)))), (0, .ref od_A), (2, .int p2), (3, .int p3), (5, .int z12), (6, .int y3), (7, .int z13)]) hx hb dX2_drawShots_76 hl (by decide) rfl (fun ls hl => ?_)
            exact K19 _ _ hf (lv_sub hl [1, 2, 3, 0, 4, 5] rfl)
        have L21 : ∀ (n : Nat), ∀ (y7 : Int32) (y8 : Int32) (y9 : Int32) (ls : Array Slot), f_X2_drawShots_L21 od_tired od_quarters p3 y3 k11 n y7 y8 y9 = some r → lv_has ls 9 [(0, .ref od_A), (2, .int p2), (3, .int p3), (4, .int y1), (5, .int y7), (6, .int y3), (7, .int y8), (8, .int y9)] → W p l e (roR 2 43) s m args below meth c s.heap [] 0 0 Q (F0 m 21 ls []) := by
          intro n
          induction n with
          | zero =>
            intro y7 y8 y9 ls hf
            rw [f_X2_drawShots_L21] at hf
            cases hf
          | succ n ih =>
            intro y7 y8 y9 ls hf hl
            rw [f_X2_drawShots_L21] at hf
            refine lv_iload (pc := 21) hx hb dX2_drawShots_21 (lv_at hl 7 rfl) ?_
            refine lv_iload_n (pc := 23) hx hb dX2_drawShots_23 rfl (lv_at hl 2 rfl) ?_
            refine r_ic_ge (pc := 24) (tgt := 64) hx hb dX2_drawShots_24 (by decide) hf (fun hf => ?_) (fun hf => ?_)
            · exact K11 _ _ _ hf (lv_sub hl [0, 1, 2, 3, 4, 5, 6] rfl)
            · refine lv_bipush (pc := 27) (v := (75 : Int32)) hx hb dX2_drawShots_27 (by decide) ?_
              refine lv_iload (pc := 29) hx hb dX2_drawShots_29 (lv_at hl 4 rfl) ?_
              refine lv_imul (pc := 31) hx hb dX2_drawShots_31 ?_
              refine lv_bipush (pc := 32) (v := (74 : Int32)) hx hb dX2_drawShots_32 (by decide) ?_
              refine lv_iadd (pc := 34) hx hb dX2_drawShots_34 ?_
              refine lv_ldc (pc := 35) hx hb hown (hts _ tw_544) dX2_drawShots_35 ?_
              refine r_irem (pc := 37) hx hb hf dX2_drawShots_37 (fun v14 hf => ?_)
              refine lv_istore (pc := 38) (lv' := [(5, .int v14), (0, .ref od_A), (2, .int p2), (3, .int p3), (4, .int y1), (6, .int y3), (7, .int y8), (8, .int y9)]) hx hb dX2_drawShots_38 hl (by decide) rfl (fun ls hl => ?_)
              refine lv_iload (pc := 40) hx hb dX2_drawShots_40 (lv_at hl 0 rfl) ?_
              refine lv_iconst (pc := 42) (v := (4 : Int32)) hx hb dX2_drawShots_42 (by decide) ?_
              refine r_irem (pc := 43) hx hb hf dX2_drawShots_43 (fun v15 hf => ?_)
              refine lv_aload_n (pc := 44) hx hb dX2_drawShots_44 rfl (lv_at hl 1 rfl) ?_
              refine lv_iload (pc := 45) hx hb dX2_drawShots_45 (lv_at hl 5 rfl) ?_
              refine lv_iload (pc := 47) hx hb dX2_drawShots_47 (lv_at hl 7 rfl) ?_
              obtain ⟨v16, hv49, hf⟩ := bd_e hf
              refine ro_Vi (pc := 49) (As := [.int y3, .int y9]) (rest := [.int v15]) E (c_X2_quartersIn l D cI cJ cZ cS od_A od_quarters_A od_tired od_quarters y3 y9 v16 hv49) F_X2_quartersIn rfl rfl tw_510 tw_512 tp_12 hP ⟨by decide, by decide⟩ rfl hl.1 (Nat.le_of_ble_eq_true rfl) ⟨by decide, by decide⟩ rfl dX2_drawShots_49 ?_
              obtain ⟨k17, hk17, hf⟩ := lc1_e hf
              have K17 : ∀ (x18 : Int32) (ls : Array Slot), k17 x18 = some r → lv_has ls 9 [(0, .ref od_A), (2, .int p2), (3, .int p3), (4, .int y1), (5, .int v14), (6, .int y3), (7, .int x18), (8, .int y9)] → W p l e (roR 2 43) s m args below meth c s.heap [] 0 0 Q (F0 m 58 ls []) := by
                intro x18 ls hf hl
                rw [hk17] at hf
                refine lv_iinc (pc := 58) (v := (y9 + (1 : Int32))) (lv' := [(8, .int (y9 + (1 : Int32))), (0, .ref od_A), (2, .int p2), (3, .int p3), (4, .int y1), (5, .int v14), (6, .int y3), (7, .int x18)]) hx hb dX2_drawShots_58 hl (k := 7) rfl (by rfl) (by decide) rfl (fun ls hl => ?_)
                refine lv_goto (pc := 61) (tgt := 21) hx hb dX2_drawShots_61 (by decide) ?_
                exact ih _ _ _ _ hf (lv_sub hl [1, 2, 3, 4, 5, 6, 7, 0] rfl)
              refine r_ic_ge (pc := 52) (tgt := 58) hx hb dX2_drawShots_52 (by decide) hf (fun hf => ?_) (fun hf => ?_)
              · exact K17 _ _ hf (lv_sub hl [1, 2, 3, 4, 0, 5, 6, 7] rfl)
              · refine lv_iconst (pc := 55) (v := (0 : Int32)) hx hb dX2_drawShots_55 (by decide) ?_
                refine lv_istore (pc := 56) (lv' := [(7, .int (0 : Int32)), (5, .int v14), (0, .ref od_A), (2, .int p2), (3, .int p3), (4, .int y1), (6, .int y3), (8, .int y9)]) hx hb dX2_drawShots_56 hl (by decide) rfl (fun ls hl => ?_)
                exact K17 _ _ hf (lv_sub hl [2, 3, 4, 5, 1, 6, 0, 7] rfl)
        exact L21 N _ _ _ _ hf (lv_sub hl [2, 3, 4, 5, 6, 7, 1, 0] rfl)
  exact L9 N _ _ _ _ hf (lv_sub hl [3, 5, 6, 2, 1, 0] rfl)
