theorem F_X1_shotOf : CalF yX1_shotOf cX1_shotOf 2 (some .int) 1 := ⟨tw_419, tw_8, by decide +kernel⟩
set_option maxRecDepth 100000 in
set_option maxHeartbeats 4000000 in
theorem c_X1_shotOf (l : Launch) (D : va_G) (cI cJ cZ cS : ClassId) (hw_A hw_cutsFrom_A hw_chosen_A : Nat) (hw_cutsFrom : Nat → Int32) (hw_chosen : Nat → Int32) (p1 : Int32) (r : Int32) (hf : f_X1_shotOf hw_chosen p1 = some r) : RoC l D cI cJ cZ cS yX1_shotOf cX1_shotOf 2 (some .int) 0 0 (w_X1 cI cJ cZ cS hw_A hw_cutsFrom_A hw_chosen_A hw_cutsFrom hw_chosen) [.ref hw_A, .int p1] (some (.int r)) := by
  refine ro_in_i (own := RX1) (by decide +kernel) rfl (Nat.le_of_ble_eq_true rfl) ?_
  intro p e s m args below meth c ls Q E hQ hP hl
  obtain ⟨hx, hb, hml, hown, hts, hK, hN, hAO⟩ := id E
  have hl : lv_has ls 2 [(0, .ref hw_A), (1, .int p1)] := hl
  unfold f_X1_shotOf at hf
  refine lv_aload_n (pc := 0) hx hb dX1_shotOf_0 rfl (lv_at hl 0 rfl) ?_
  refine va_get (pc := 1) (D := D) (ci := 1) (v := .ref hw_chosen_A) (C := RX1) (T := TX1) (N := 2) hx hb hts inG1 hown hK hP 0 rfl rfl 1 (by decide) (hts _ tw_167) (fun _ h9 => h9) rfl dX1_shotOf_1 ?_
  refine lv_iload_n (pc := 4) hx hb dX1_shotOf_4 rfl (lv_at hl 1 rfl) ?_
  refine r_iald (pc := 5) hx hb hK hP 2 0 rfl rfl hf dX1_shotOf_5 (fun v1 hf => ?_)
  exact hQ _ _ _ dX1_shotOf_6 hf
theorem F_X1_firstLeast : CalF yX1_firstLeast cX1_firstLeast 4 (some .int) 1 := ⟨tw_411, tw_8, by decide +kernel⟩
set_option maxRecDepth 100000 in
set_option maxHeartbeats 4000000 in
theorem c_X1_firstLeast (l : Launch) (D : va_G) (cI cJ cZ cS : ClassId) (N : Nat) (hw_A hw_cutsFrom_A hw_chosen_A : Nat) (hw_cutsFrom : Nat → Int32) (hw_chosen : Nat → Int32) (p1 : Int32) (r : Int32) (hf : f_X1_firstLeast N hw_cutsFrom p1 = some r) : RoC l D cI cJ cZ cS yX1_firstLeast cX1_firstLeast 4 (some .int) 0 0 (w_X1 cI cJ cZ cS hw_A hw_cutsFrom_A hw_chosen_A hw_cutsFrom hw_chosen) [.ref hw_A, .int p1] (some (.int r)) := by
  refine ro_in_i (own := RX1) (by decide +kernel) rfl (Nat.le_of_ble_eq_true rfl) ?_
  intro p e s m args below meth c ls Q E hQ hP hl
  obtain ⟨hx, hb, hml, hown, hts, hK, hN, hAO⟩ := id E
  have hl : lv_has ls 4 [(0, .ref hw_A), (1, .int p1)] := hl
  unfold f_X1_firstLeast at hf
  refine lv_iconst (pc := 0) (v := (0 : Int32)) hx hb dX1_firstLeast_0 (by decide) ?_
  refine lv_istore_n (pc := 1) (lv' := [(2, .int (0 : Int32)), (0, .ref hw_A), (1, .int p1)]) hx hb dX1_firstLeast_1 rfl hl (by decide) rfl (fun ls hl => ?_)
  refine lv_iconst (pc := 2) (v := (1 : Int32)) hx hb dX1_firstLeast_2 (by decide) ?_
  refine lv_istore_n (pc := 3) (lv' := [(3, .int (1 : Int32)), (2, .int (0 : Int32)), (0, .ref hw_A), (1, .int p1)]) hx hb dX1_firstLeast_3 rfl hl (by decide) rfl (fun ls hl => ?_)
  obtain ⟨k4, hk4, hf⟩ := lc1_e hf
  have K4 : ∀ (z5 : Int32) (ls : Array Slot), k4 z5 = some r → lv_has ls 4 [(2, .int z5)] → W p l e (roR 0 0) s m args below meth c s.heap [] 0 0 Q (F0 m 32 ls []) := by
    intro z5 ls hf hl
    rw [hk4] at hf
    refine lv_iload_n (pc := 32) hx hb dX1_firstLeast_32 rfl (lv_at hl 0 rfl) ?_
    exact hQ _ _ _ dX1_firstLeast_33 hf
  have L4 : ∀ (n : Nat), ∀ (y1 : Int32) (y2 : Int32) (ls : Array Slot), f_X1_firstLeast_L4 hw_cutsFrom p1 k4 n y1 y2 = some r → lv_has ls 4 [(0, .ref hw_A), (1, .int p1), (2, .int y1), (3, .int y2)] → W p l e (roR 0 0) s m args below meth c s.heap [] 0 0 Q (F0 m 4 ls []) := by
    intro n
    induction n with
    | zero =>
      intro y1 y2 ls hf
      rw [f_X1_firstLeast_L4] at hf
      cases hf
    | succ n ih =>
      intro y1 y2 ls hf hl
      rw [f_X1_firstLeast_L4] at hf
      refine lv_iload_n (pc := 4) hx hb dX1_firstLeast_4 rfl (lv_at hl 3 rfl) ?_
      refine lv_iload_n (pc := 5) hx hb dX1_firstLeast_5 rfl (lv_at hl 1 rfl) ?_
      refine r_ic_ge (pc := 6) (tgt := 32) hx hb dX1_firstLeast_6 (by decide) hf (fun hf => ?_) (fun hf => ?_)
      · exact K4 _ _ hf (lv_sub hl [2] rfl)
      · refine lv_aload_n (pc := 9) hx hb dX1_firstLeast_9 rfl (lv_at hl 0 rfl) ?_
        refine va_get (pc := 10) (D := D) (ci := 1) (v := .ref hw_cutsFrom_A) (C := RX1) (T := TX1) (N := 2) hx hb hts inG1 hown hK hP 0 rfl rfl 0 (by decide) (hts _ tw_166) (fun _ h9 => h9) rfl dX1_firstLeast_10 ?_
        refine lv_iload_n (pc := 13) hx hb dX1_firstLeast_13 rfl (lv_at hl 3 rfl) ?_
        refine r_iald (pc := 14) hx hb hK hP 1 0 rfl rfl hf dX1_firstLeast_14 (fun v6 hf => ?_)
        refine lv_aload_n (pc := 15) hx hb dX1_firstLeast_15 rfl (lv_at hl 0 rfl) ?_
        refine va_get (pc := 16) (D := D) (ci := 1) (v := .ref hw_cutsFrom_A) (C := RX1) (T := TX1) (N := 2) hx hb hts inG1 hown hK hP 0 rfl rfl 0 (by decide) (hts _ tw_166) (fun _ h9 => h9) rfl dX1_firstLeast_16 ?_
        refine lv_iload_n (pc := 19) hx hb dX1_firstLeast_19 rfl (lv_at hl 2 rfl) ?_
        refine r_iald (pc := 20) hx hb hK hP 1 0 rfl rfl hf dX1_firstLeast_20 (fun v7 hf => ?_)
        obtain ⟨k8, hk8, hf⟩ := lc1_e hf
        have K8 : ∀ (x9 : Int32) (ls : Array Slot), k8 x9 = some r → lv_has ls 4 [(0, .ref hw_A), (1, .int p1), (2, .int x9), (3, .int y2)] → W p l e (roR 0 0) s m args below meth c s.heap [] 0 0 Q (F0 m 26 ls []) := by
          intro x9 ls hf hl
          rw [hk8] at hf
          refine lv_iinc (pc := 26) (v := (y2 + (1 : Int32))) (lv' := [(3, .int (y2 + (1 : Int32))), (0, .ref hw_A), (1, .int p1), (2, .int x9)]) hx hb dX1_firstLeast_26 hl (k := 3) rfl (by rfl) (by decide) rfl (fun ls hl => ?_)
          refine lv_goto (pc := 29) (tgt := 4) hx hb dX1_firstLeast_29 (by decide) ?_
          exact ih _ _ _ hf (lv_sub hl [1, 2, 3, 0] rfl)
        refine r_ic_ge (pc := 21) (tgt := 26) hx hb dX1_firstLeast_21 (by decide) hf (fun hf => ?_) (fun hf => ?_)
        · exact K8 _ _ hf hl
        · refine lv_iload_n (pc := 24) hx hb dX1_firstLeast_24 rfl (lv_at hl 3 rfl) ?_
          refine lv_istore_n (pc := 25) (lv' := [(2, .int y2), (0, .ref hw_A), (1, .int p1), (3, .int y2)]) hx hb dX1_firstLeast_25 rfl hl (by decide) rfl (fun ls hl => ?_)
          exact K8 _ _ hf (lv_sub hl [1, 2, 0, 3] rfl)
  exact L4 N _ _ _ hf (lv_sub hl [2, 3, 1, 0] rfl)
theorem F_X1_cutsBehind : CalF yX1_cutsBehind cX1_cutsBehind 6 (some .int) 4 := ⟨tw_398, tw_8, by decide +kernel⟩
set_option maxRecDepth 100000 in
set_option maxHeartbeats 4000000 in
theorem c_X1_cutsBehind (l : Launch) (D : va_G) (cI cJ cZ cS : ClassId) (hw_A hw_cutsFrom_A hw_chosen_A sh_A sh_looks_A sh_openBits_A : Nat) (hw_cutsFrom : Nat → Int32) (hw_chosen : Nat → Int32) (sh_count : Int32) (sh_hands : Int32) (sh_looks : Nat → Int32) (sh_openBits : Nat → Int32) (p2 : Int32) (p3 : Int32) (p4 : Int32) (r : Int32) (hf : f_X1_cutsBehind hw_cutsFrom sh_hands p2 p3 p4 = some r) : RoC l D cI cJ cZ cS yX1_cutsBehind cX1_cutsBehind 6 (some .int) 1 21 (w_X1X6 cI cJ cZ cS hw_A hw_cutsFrom_A hw_chosen_A sh_A sh_looks_A sh_openBits_A hw_cutsFrom hw_chosen sh_count sh_hands sh_looks sh_openBits) [.ref hw_A, .ref sh_A, .int p2, .int p3, .int p4] (some (.int r)) := by
  refine ro_in_i (own := RX1) (by decide +kernel) rfl (Nat.le_of_ble_eq_true rfl) ?_
  intro p e s m args below meth c ls Q E hQ hP hl
  obtain ⟨hx, hb, hml, hown, hts, hK, hN, hAO⟩ := id E
  have hl : lv_has ls 6 [(0, .ref hw_A), (1, .ref sh_A), (2, .int p2), (3, .int p3), (4, .int p4)] := hl
  unfold f_X1_cutsBehind at hf
  refine lv_aload_n (pc := 0) hx hb dX1_cutsBehind_0 rfl (lv_at hl 0 rfl) ?_
  refine va_get (pc := 1) (D := D) (ci := 1) (v := .ref hw_cutsFrom_A) (C := RX1) (T := TX1) (N := 2) hx hb hts inG1 hown hK hP 0 rfl rfl 0 (by decide) (hts _ tw_166) (fun _ h9 => h9) rfl dX1_cutsBehind_1 ?_
  refine lv_iload_n (pc := 4) hx hb dX1_cutsBehind_4 rfl (lv_at hl 2 rfl) ?_
  refine lv_iconst (pc := 5) (v := (1 : Int32)) hx hb dX1_cutsBehind_5 (by decide) ?_
  refine lv_iadd (pc := 6) hx hb dX1_cutsBehind_6 ?_
  refine lv_bipush (pc := 7) (v := (10 : Int32)) hx hb dX1_cutsBehind_7 (by decide) ?_
  refine lv_imul (pc := 9) hx hb dX1_cutsBehind_9 ?_
  refine lv_iload_n (pc := 10) hx hb dX1_cutsBehind_10 rfl (lv_at hl 3 rfl) ?_
  refine lv_iadd (pc := 11) hx hb dX1_cutsBehind_11 ?_
  refine r_iald (pc := 12) hx hb hK hP 1 0 rfl rfl hf dX1_cutsBehind_12 (fun v1 hf => ?_)
  refine lv_istore (pc := 13) (lv' := [(5, .int v1), (0, .ref hw_A), (1, .ref sh_A), (2, .int p2), (3, .int p3), (4, .int p4)]) hx hb dX1_cutsBehind_13 hl (by decide) rfl (fun ls hl => ?_)
  refine lv_aload_n (pc := 15) hx hb dX1_cutsBehind_15 rfl (lv_at hl 2 rfl) ?_
  refine lv_iload_n (pc := 16) hx hb dX1_cutsBehind_16 rfl (lv_at hl 3 rfl) ?_
  obtain ⟨v2, hv17, hf⟩ := bd_e hf
  refine ro_Vi (pc := 17) (As := [.int p2]) (rest := []) E (c_X6_holdHands l D cI cJ cZ cS sh_A sh_looks_A sh_openBits_A sh_count sh_hands sh_looks sh_openBits p2 v2 hv17) F_X6_holdHands rfl rfl tw_399 tw_400 tw_401 (hP.subm [3, 4, 5] rfl) ⟨by decide, by decide⟩ rfl hl.1 (Nat.le_of_ble_eq_true rfl) ⟨by decide, by decide⟩ rfl dX1_cutsBehind_17 ?_
  refine r_if_eq (pc := 20) (tgt := 26) hx hb dX1_cutsBehind_20 (by decide) hf (fun hf => ?_) (fun hf => ?_)
  · refine lv_sipush (pc := 26) (v := (1000 : Int32)) hx hb dX1_cutsBehind_26 (by decide) ?_
    refine lv_iload (pc := 29) hx hb dX1_cutsBehind_29 (lv_at hl 0 rfl) ?_
    refine lv_iload (pc := 31) hx hb dX1_cutsBehind_31 (lv_at hl 5 rfl) ?_
    refine lv_iconst (pc := 33) (v := (1 : Int32)) hx hb dX1_cutsBehind_33 (by decide) ?_
    refine lv_iadd (pc := 34) hx hb dX1_cutsBehind_34 ?_
    refine r_mmin (pc := 35) E hl.1 tw_403 tw_280 tw_11 tw_281 (by decide) (Nat.le_of_ble_eq_true rfl) (by decide) (by decide) dX1_cutsBehind_35 ?_
    refine r_mmin (pc := 38) E hl.1 tw_403 tw_280 tw_11 tw_281 (by decide) (Nat.le_of_ble_eq_true rfl) (by decide) (by decide) dX1_cutsBehind_38 ?_
    exact hQ _ _ _ dX1_cutsBehind_41 hf
  · refine lv_iload (pc := 23) hx hb dX1_cutsBehind_23 (lv_at hl 0 rfl) ?_
    exact hQ _ _ _ dX1_cutsBehind_25 hf
theorem F_X1_fillRow : CalF yX1_fillRow cX1_fillRow 8 (some .int) 4 := ⟨tw_393, tw_8, by decide +kernel⟩
set_option maxRecDepth 100000 in
set_option maxHeartbeats 4000000 in
theorem c_X1_fillRow (l : Launch) (D : va_G) (cI cJ cZ cS : ClassId) (N : Nat) (hw_A hw_cutsFrom_A hw_chosen_A sh_A sh_looks_A sh_openBits_A : Nat) (hw_cutsFrom : Nat → Int32) (hw_chosen : Nat → Int32) (sh_count : Int32) (sh_hands : Int32) (sh_looks : Nat → Int32) (sh_openBits : Nat → Int32) (p2 : Int32) (p3 : Int32) (p4 : Int32) (sz : Nat) (r : Int32) (r_hw_cutsFrom : Nat → Int32) (hf : f_X1_fillRow N hw_cutsFrom sh_count sh_hands sh_openBits p2 p3 p4 = some (r, r_hw_cutsFrom)) : RwC l D cI cJ cZ cS yX1_fillRow cX1_fillRow 8 (some .int) 2 46 (w_X1X6 cI cJ cZ cS hw_A hw_cutsFrom_A hw_chosen_A sh_A sh_looks_A sh_openBits_A hw_cutsFrom hw_chosen sh_count sh_hands sh_looks sh_openBits) sz [.ref hw_A, .ref sh_A, .int p2, .int p3, .int p4] (some (.int r)) (w_X1X6 cI cJ cZ cS hw_A hw_cutsFrom_A hw_chosen_A sh_A sh_looks_A sh_openBits_A r_hw_cutsFrom hw_chosen sh_count sh_hands sh_looks sh_openBits) := by
  refine rw_in_i (own := RX1) (by decide +kernel) rfl (Nat.le_of_ble_eq_true rfl) ?_
  intro p e s m args below meth c ls Q A E hA hQ hP hD hS hl
  obtain ⟨hx, hb, hml, hown, hts, hK, hN, hAO⟩ := id E
  have hl : lv_has ls 8 [(0, .ref hw_A), (1, .ref sh_A), (2, .int p2), (3, .int p3), (4, .int p4)] := hl
  unfold f_X1_fillRow at hf
  obtain ⟨H, hH⟩ : ∃ H, H = s.heap := ⟨_, rfl⟩
  obtain ⟨locs, hlocs⟩ : ∃ L : List Loc, L = [] := ⟨_, rfl⟩
  rw [show W p l e (roR 2 46) s m args below meth c s.heap [] 0 0 Q (F0 m 0 ls []) = W p l e (roR 2 46) s m args below meth c H locs 0 0 Q (F0 m 0 ls []) by rw [hH, hlocs]]
  replace hS : va_S A s.heap H locs := by rw [hH, hlocs]; exact hS
  replace hP : va_P D vwCl (w_X1X6 cI cJ cZ cS hw_A hw_cutsFrom_A hw_chosen_A sh_A sh_looks_A sh_openBits_A hw_cutsFrom hw_chosen sh_count sh_hands sh_looks sh_openBits) H := by rw [hH]; exact hP
  clear hH hlocs
  refine lv_sipush (pc := 0) (v := (1000 : Int32)) hx hb dX1_fillRow_0 (by decide) ?_
  refine lv_istore (pc := 3) (lv' := [(5, .int (1000 : Int32)), (0, .ref hw_A), (1, .ref sh_A), (2, .int p2), (3, .int p3), (4, .int p4)]) hx hb dX1_fillRow_3 hl (by decide) rfl (fun ls hl => ?_)
  refine lv_iconst (pc := 5) (v := (0 : Int32)) hx hb dX1_fillRow_5 (by decide) ?_
  refine lv_istore (pc := 6) (lv' := [(6, .int (0 : Int32)), (5, .int (1000 : Int32)), (0, .ref hw_A), (1, .ref sh_A), (2, .int p2), (3, .int p3), (4, .int p4)]) hx hb dX1_fillRow_6 hl (by decide) rfl (fun ls hl => ?_)
  obtain ⟨k5, hk5, hf⟩ := lc2_e hf
  have K5 : ∀ (z6 : Int32) (hw_cutsFrom_7 : Nat → Int32) (H : Heap) (locs : List Loc) (ls : Array Slot), k5 z6 hw_cutsFrom_7 = some (r, r_hw_cutsFrom) → va_P D vwCl (w_X1X6 cI cJ cZ cS hw_A hw_cutsFrom_A hw_chosen_A sh_A sh_looks_A sh_openBits_A hw_cutsFrom_7 hw_chosen sh_count sh_hands sh_looks sh_openBits) H → va_D A (w_X1X6 cI cJ cZ cS hw_A hw_cutsFrom_A hw_chosen_A sh_A sh_looks_A sh_openBits_A hw_cutsFrom_7 hw_chosen sh_count sh_hands sh_looks sh_openBits) → va_S A s.heap H locs → lv_has ls 8 [(5, .int z6)] → W p l e (roR 2 46) s m args below meth c H locs 0 0 Q (F0 m 81 ls []) := by
    intro z6 hw_cutsFrom_7 H locs ls hf hP hD hS hl
    rw [hk5] at hf
    refine lv_iload (pc := 81) hx hb dX1_fillRow_81 (lv_at hl 0 rfl) ?_
    cases hf
    exact hQ _ _ _ _ _ dX1_fillRow_83 rfl hP hD hS
  have L8 : ∀ (n : Nat), ∀ (y1 : Int32) (y2 : Int32) (hw_cutsFrom_3 : Nat → Int32) (H : Heap) (locs : List Loc) (ls : Array Slot), f_X1_fillRow_L8 sh_count sh_hands sh_openBits p2 p3 p4 k5 n y1 y2 hw_cutsFrom_3 = some (r, r_hw_cutsFrom) → va_P D vwCl (w_X1X6 cI cJ cZ cS hw_A hw_cutsFrom_A hw_chosen_A sh_A sh_looks_A sh_openBits_A hw_cutsFrom_3 hw_chosen sh_count sh_hands sh_looks sh_openBits) H → va_D A (w_X1X6 cI cJ cZ cS hw_A hw_cutsFrom_A hw_chosen_A sh_A sh_looks_A sh_openBits_A hw_cutsFrom_3 hw_chosen sh_count sh_hands sh_looks sh_openBits) → va_S A s.heap H locs → lv_has ls 8 [(0, .ref hw_A), (1, .ref sh_A), (2, .int p2), (3, .int p3), (4, .int p4), (5, .int y1), (6, .int y2)] → W p l e (roR 2 46) s m args below meth c H locs 0 0 Q (F0 m 8 ls []) := by
    intro n
    induction n with
    | zero =>
      intro y1 y2 hw_cutsFrom_3 H locs ls hf
      rw [f_X1_fillRow_L8] at hf
      cases hf
    | succ n ih =>
      intro y1 y2 hw_cutsFrom_3 H locs ls hf hP hD hS hl
      rw [f_X1_fillRow_L8] at hf
      refine lv_iload (pc := 8) hx hb dX1_fillRow_8 (lv_at hl 6 rfl) ?_
      refine lv_aload_n (pc := 10) hx hb dX1_fillRow_10 rfl (lv_at hl 1 rfl) ?_
      refine va_getN (pc := 11) (D := D) (ci := 6) (v := .int sh_count) (C := RX6) (T := TX6) (N := 4) hx hb hts inG6 hown hK hP 3 rfl rfl 0 (by decide) (va_Nw.use rfl (hN _ tn_4)) (fun _ h9 => h9) rfl dX1_fillRow_11 ?_
      refine r_ic_ge (pc := 14) (tgt := 81) hx hb dX1_fillRow_14 (by decide) hf (fun hf => ?_) (fun hf => ?_)
      · exact K5 _ _ _ _ _ hf hP hD hS (lv_sub hl [5] rfl)
      · refine lv_sipush (pc := 17) (v := (1000 : Int32)) hx hb dX1_fillRow_17 (by decide) ?_
        refine lv_istore (pc := 20) (lv' := [(7, .int (1000 : Int32)), (0, .ref hw_A), (1, .ref sh_A), (2, .int p2), (3, .int p3), (4, .int p4), (5, .int y1), (6, .int y2)]) hx hb dX1_fillRow_20 hl (by decide) rfl (fun ls hl => ?_)
        refine lv_aload_n (pc := 22) hx hb dX1_fillRow_22 rfl (lv_at hl 2 rfl) ?_
        refine lv_iload (pc := 23) hx hb dX1_fillRow_23 (lv_at hl 7 rfl) ?_
        refine lv_iload_n (pc := 25) hx hb dX1_fillRow_25 rfl (lv_at hl 3 rfl) ?_
        obtain ⟨v8, hv26, hf⟩ := bd_e hf
        refine ro_Vi (pc := 26) (As := [.int y2, .int p2]) (rest := []) E (c_X6_isOpen l D cI cJ cZ cS sh_A sh_looks_A sh_openBits_A sh_count sh_hands sh_looks sh_openBits y2 p2 v8 hv26) F_X6_isOpen rfl rfl tw_394 tw_330 tw_331 (hP.subm [3, 4, 5] rfl) ⟨by decide, by decide⟩ rfl hl.1 (Nat.le_of_ble_eq_true rfl) ⟨by decide, by decide⟩ rfl dX1_fillRow_26 ?_
        obtain ⟨k9, hk9, hf⟩ := lc1_e hf
        have K9 : ∀ (x13 : Int32) (H : Heap) (locs : List Loc) (ls : Array Slot), k9 x13 = some (r, r_hw_cutsFrom) → va_P D vwCl (w_X1X6 cI cJ cZ cS hw_A hw_cutsFrom_A hw_chosen_A sh_A sh_looks_A sh_openBits_A hw_cutsFrom_3 hw_chosen sh_count sh_hands sh_looks sh_openBits) H → va_D A (w_X1X6 cI cJ cZ cS hw_A hw_cutsFrom_A hw_chosen_A sh_A sh_looks_A sh_openBits_A hw_cutsFrom_3 hw_chosen sh_count sh_hands sh_looks sh_openBits) → va_S A s.heap H locs → lv_has ls 8 [(0, .ref hw_A), (1, .ref sh_A), (2, .int p2), (3, .int p3), (4, .int p4), (5, .int y1), (6, .int y2), (7, .int x13)] → W p l e (roR 2 46) s m args below meth c H locs 0 0 Q (F0 m 52 ls []) := by
          intro x13 H locs ls hf hP hD hS hl
          rw [hk9] at hf
          refine lv_aload_n (pc := 52) hx hb dX1_fillRow_52 rfl (lv_at hl 0 rfl) ?_
          refine va_get (pc := 53) (D := D) (ci := 1) (v := .ref hw_cutsFrom_A) (C := RX1) (T := TX1) (N := 2) hx hb hts inG1 hown hK hP 0 rfl rfl 0 (by decide) (hts _ tw_166) (fun _ h9 => h9) rfl dX1_fillRow_53 ?_
          refine lv_iload_n (pc := 56) hx hb dX1_fillRow_56 rfl (lv_at hl 2 rfl) ?_
          refine lv_bipush (pc := 57) (v := (10 : Int32)) hx hb dX1_fillRow_57 (by decide) ?_
          refine lv_imul (pc := 59) hx hb dX1_fillRow_59 ?_
          refine lv_iload (pc := 60) hx hb dX1_fillRow_60 (lv_at hl 6 rfl) ?_
          refine lv_iadd (pc := 62) hx hb dX1_fillRow_62 ?_
          refine lv_iload (pc := 63) hx hb dX1_fillRow_63 (lv_at hl 7 rfl) ?_
          refine r_iast (pc := 65) hx hb hK hP hD hS 1 0 rfl rfl hf dX1_fillRow_65 (fun hw_cutsFrom_14 H locs hf hP hD hS => ?_)
          have hP : va_P D vwCl (w_X1X6 cI cJ cZ cS hw_A hw_cutsFrom_A hw_chosen_A sh_A sh_looks_A sh_openBits_A hw_cutsFrom_14 hw_chosen sh_count sh_hands sh_looks sh_openBits) H := hP
          have hD : va_D A (w_X1X6 cI cJ cZ cS hw_A hw_cutsFrom_A hw_chosen_A sh_A sh_looks_A sh_openBits_A hw_cutsFrom_14 hw_chosen sh_count sh_hands sh_looks sh_openBits) := hD
          refine lv_iload (pc := 66) hx hb dX1_fillRow_66 (lv_at hl 5 rfl) ?_
          refine lv_iload (pc := 68) hx hb dX1_fillRow_68 (lv_at hl 7 rfl) ?_
          refine r_mmin (pc := 70) E hl.1 tw_403 tw_280 tw_11 tw_281 (by decide) (Nat.le_of_ble_eq_true rfl) (by decide) (by decide) dX1_fillRow_70 ?_
          refine lv_istore (pc := 73) (lv' := [(5, .int (imin y1 x13)), (0, .ref hw_A), (1, .ref sh_A), (2, .int p2), (3, .int p3), (4, .int p4), (6, .int y2), (7, .int x13)]) hx hb dX1_fillRow_73 hl (by decide) rfl (fun ls hl => ?_)
          refine lv_iinc (pc := 75) (v := (y2 + (1 : Int32))) (lv' := [(6, .int (y2 + (1 : Int32))), (5, .int (imin y1 x13)), (0, .ref hw_A), (1, .ref sh_A), (2, .int p2), (3, .int p3), (4, .int p4), (7, .int x13)]) hx hb dX1_fillRow_75 hl (k := 6) rfl (by rfl) (by decide) rfl (fun ls hl => ?_)
          refine lv_goto (pc := 78) (tgt := 8) hx hb dX1_fillRow_78 (by decide) ?_
          exact ih _ _ _ _ _ _ hf hP hD hS (lv_sub hl [2, 3, 4, 5, 6, 1, 0] rfl)
        refine r_if_eq (pc := 29) (tgt := 52) hx hb dX1_fillRow_29 (by decide) hf (fun hf => ?_) (fun hf => ?_)
        · exact K9 _ _ _ _ hf hP hD hS (lv_sub hl [1, 2, 3, 4, 5, 6, 7, 0] rfl)
        · refine lv_iload_n (pc := 32) hx hb dX1_fillRow_32 rfl (lv_at hl 4 rfl) ?_
          obtain ⟨k10, hk10, hf⟩ := lc1_e hf
          have K10 : ∀ (x12 : Int32) (H : Heap) (locs : List Loc) (ls : Array Slot), k10 x12 = some (r, r_hw_cutsFrom) → va_P D vwCl (w_X1X6 cI cJ cZ cS hw_A hw_cutsFrom_A hw_chosen_A sh_A sh_looks_A sh_openBits_A hw_cutsFrom_3 hw_chosen sh_count sh_hands sh_looks sh_openBits) H → va_D A (w_X1X6 cI cJ cZ cS hw_A hw_cutsFrom_A hw_chosen_A sh_A sh_looks_A sh_openBits_A hw_cutsFrom_3 hw_chosen sh_count sh_hands sh_looks sh_openBits) → va_S A s.heap H locs → lv_has ls 8 [(0, .ref hw_A), (1, .ref sh_A), (2, .int p2), (3, .int p3), (4, .int p4), (5, .int y1), (6, .int y2)] → W p l e (roR 2 46) s m args below meth c H locs 0 0 Q (F0 m 50 ls [.int x12]) := by
            intro x12 H locs ls hf hP hD hS hl
            rw [hk10] at hf
            refine lv_istore (pc := 50) (lv' := [(7, .int x12), (0, .ref hw_A), (1, .ref sh_A), (2, .int p2), (3, .int p3), (4, .int p4), (5, .int y1), (6, .int y2)]) hx hb dX1_fillRow_50 hl (by decide) rfl (fun ls hl => ?_)
            exact K9 _ _ _ _ hf hP hD hS (lv_sub hl [1, 2, 3, 4, 5, 6, 7, 0] rfl)
          refine r_if_eq (pc := 33) (tgt := 40) hx hb dX1_fillRow_33 (by decide) hf (fun hf => ?_) (fun hf => ?_)
          · refine lv_aload_n (pc := 40) hx hb dX1_fillRow_40 rfl (lv_at hl 1 rfl) ?_
            refine lv_aload_n (pc := 41) hx hb dX1_fillRow_41 rfl (lv_at hl 2 rfl) ?_
            refine lv_iload_n (pc := 42) hx hb dX1_fillRow_42 rfl (lv_at hl 3 rfl) ?_
            refine lv_iload (pc := 43) hx hb dX1_fillRow_43 (lv_at hl 7 rfl) ?_
            refine lv_iload (pc := 45) hx hb dX1_fillRow_45 (lv_at hl 5 rfl) ?_
            obtain ⟨v11, hv47, hf⟩ := bd_e hf
            refine ro_Vi (pc := 47) (As := [.ref sh_A, .int p2, .int y2, .int p4]) (rest := []) E (c_X1_cutsBehind l D cI cJ cZ cS hw_A hw_cutsFrom_A hw_chosen_A sh_A sh_looks_A sh_openBits_A hw_cutsFrom_3 hw_chosen sh_count sh_hands sh_looks sh_openBits p2 y2 p4 v11 hv47) F_X1_cutsBehind rfl rfl tw_395 tw_397 tp_4 hP ⟨by decide, by decide⟩ rfl hl.1 (Nat.le_of_ble_eq_true rfl) ⟨by decide, by decide⟩ rfl dX1_fillRow_47 ?_
            exact K10 _ _ _ _ hf hP hD hS (lv_sub hl [1, 2, 3, 4, 5, 6, 7] rfl)
          · refine lv_iconst (pc := 36) (v := (0 : Int32)) hx hb dX1_fillRow_36 (by decide) ?_
            refine lv_goto (pc := 37) (tgt := 50) hx hb dX1_fillRow_37 (by decide) ?_
            exact K10 _ _ _ _ hf hP hD hS (lv_sub hl [1, 2, 3, 4, 5, 6, 7] rfl)
  exact L8 N _ _ _ _ _ _ hf hP hD hS (lv_sub hl [2, 3, 4, 5, 6, 1, 0] rfl)
theorem F_X1_firstBehind : CalF yX1_firstBehind cX1_firstBehind 7 (some .int) 3 := ⟨tw_415, tw_8, by decide +kernel⟩
set_option maxRecDepth 100000 in
set_option maxHeartbeats 4000000 in
theorem c_X1_firstBehind (l : Launch) (D : va_G) (cI cJ cZ cS : ClassId) (N : Nat) (hw_A hw_cutsFrom_A hw_chosen_A sh_A sh_looks_A sh_openBits_A : Nat) (hw_cutsFrom : Nat → Int32) (hw_chosen : Nat → Int32) (sh_count : Int32) (sh_hands : Int32) (sh_looks : Nat → Int32) (sh_openBits : Nat → Int32) (p2 : Int32) (p3 : Int32) (r : Int32) (hf : f_X1_firstBehind N hw_cutsFrom sh_count sh_hands p2 p3 = some r) : RoC l D cI cJ cZ cS yX1_firstBehind cX1_firstBehind 7 (some .int) 1 21 (w_X1X6 cI cJ cZ cS hw_A hw_cutsFrom_A hw_chosen_A sh_A sh_looks_A sh_openBits_A hw_cutsFrom hw_chosen sh_count sh_hands sh_looks sh_openBits) [.ref hw_A, .ref sh_A, .int p2, .int p3] (some (.int r)) := by
  refine ro_in_i (own := RX1) (by decide +kernel) rfl (Nat.le_of_ble_eq_true rfl) ?_
  intro p e s m args below meth c ls Q E hQ hP hl
  obtain ⟨hx, hb, hml, hown, hts, hK, hN, hAO⟩ := id E
  have hl : lv_has ls 7 [(0, .ref hw_A), (1, .ref sh_A), (2, .int p2), (3, .int p3)] := hl
  unfold f_X1_firstBehind at hf
  refine lv_aload_n (pc := 0) hx hb dX1_firstBehind_0 rfl (lv_at hl 1 rfl) ?_
  refine lv_iload_n (pc := 1) hx hb dX1_firstBehind_1 rfl (lv_at hl 2 rfl) ?_
  refine lv_iconst (pc := 2) (v := (1 : Int32)) hx hb dX1_firstBehind_2 (by decide) ?_
  refine lv_isub (pc := 3) hx hb dX1_firstBehind_3 ?_
  obtain ⟨v1, hv4, hf⟩ := bd_e hf
  refine ro_Vi (pc := 4) (As := [.int (p2 - (1 : Int32))]) (rest := []) E (c_X6_holdHands l D cI cJ cZ cS sh_A sh_looks_A sh_openBits_A sh_count sh_hands sh_looks sh_openBits (p2 - (1 : Int32)) v1 hv4) F_X6_holdHands rfl rfl tw_399 tw_400 tw_401 (hP.subm [3, 4, 5] rfl) ⟨by decide, by decide⟩ rfl hl.1 (Nat.le_of_ble_eq_true rfl) ⟨by decide, by decide⟩ rfl dX1_firstBehind_4 ?_
  refine r_if_eq (pc := 7) (tgt := 12) hx hb dX1_firstBehind_7 (by decide) hf (fun hf => ?_) (fun hf => ?_)
  · refine lv_aload_n (pc := 12) hx hb dX1_firstBehind_12 rfl (lv_at hl 0 rfl) ?_
    refine va_get (pc := 13) (D := D) (ci := 1) (v := .ref hw_cutsFrom_A) (C := RX1) (T := TX1) (N := 2) hx hb hts inG1 hown hK hP 0 rfl rfl 0 (by decide) (hts _ tw_166) (fun _ h9 => h9) rfl dX1_firstBehind_13 ?_
    refine lv_iload_n (pc := 16) hx hb dX1_firstBehind_16 rfl (lv_at hl 2 rfl) ?_
    refine lv_iconst (pc := 17) (v := (1 : Int32)) hx hb dX1_firstBehind_17 (by decide) ?_
    refine lv_isub (pc := 18) hx hb dX1_firstBehind_18 ?_
    refine lv_bipush (pc := 19) (v := (10 : Int32)) hx hb dX1_firstBehind_19 (by decide) ?_
    refine lv_imul (pc := 21) hx hb dX1_firstBehind_21 ?_
    refine lv_iload_n (pc := 22) hx hb dX1_firstBehind_22 rfl (lv_at hl 3 rfl) ?_
    refine lv_iadd (pc := 23) hx hb dX1_firstBehind_23 ?_
    refine r_iald (pc := 24) hx hb hK hP 1 0 rfl rfl hf dX1_firstBehind_24 (fun v2 hf => ?_)
    refine lv_istore (pc := 25) (lv' := [(4, .int v2), (0, .ref hw_A), (1, .ref sh_A), (2, .int p2), (3, .int p3)]) hx hb dX1_firstBehind_25 hl (by decide) rfl (fun ls hl => ?_)
    refine lv_iconst (pc := 27) (v := (0 : Int32)) hx hb dX1_firstBehind_27 (by decide) ?_
    refine lv_istore (pc := 28) (lv' := [(5, .int (0 : Int32)), (4, .int v2), (0, .ref hw_A), (1, .ref sh_A), (2, .int p2), (3, .int p3)]) hx hb dX1_firstBehind_28 hl (by decide) rfl (fun ls hl => ?_)
    obtain ⟨k5, hk5, hf⟩ := lc0_e hf
    have K5 : ∀  (ls : Array Slot), k5 = some r → lv_has ls 7 [(3, .int p3)] → W p l e (roR 1 21) s m args below meth c s.heap [] 0 0 Q (F0 m 81 ls []) := by
      intro  ls hf hl
      rw [hk5] at hf
      refine lv_iload_n (pc := 81) hx hb dX1_firstBehind_81 rfl (lv_at hl 0 rfl) ?_
      exact hQ _ _ _ dX1_firstBehind_82 hf
    have L30 : ∀ (n : Nat), ∀ (y3 : Int32) (ls : Array Slot), f_X1_firstBehind_L30 hw_cutsFrom sh_count p2 p3 v2 k5 n y3 = some r → lv_has ls 7 [(0, .ref hw_A), (1, .ref sh_A), (2, .int p2), (3, .int p3), (4, .int v2), (5, .int y3)] → W p l e (roR 1 21) s m args below meth c s.heap [] 0 0 Q (F0 m 30 ls []) := by
      intro n
      induction n with
      | zero =>
        intro y3 ls hf
        rw [f_X1_firstBehind_L30] at hf
        cases hf
      | succ n ih =>
        intro y3 ls hf hl
        rw [f_X1_firstBehind_L30] at hf
        refine lv_iload (pc := 30) hx hb dX1_firstBehind_30 (lv_at hl 5 rfl) ?_
        refine lv_aload_n (pc := 32) hx hb dX1_firstBehind_32 rfl (lv_at hl 1 rfl) ?_
        refine va_getN (pc := 33) (D := D) (ci := 6) (v := .int sh_count) (C := RX6) (T := TX6) (N := 4) hx hb hts inG6 hown hK hP 3 rfl rfl 0 (by decide) (va_Nw.use rfl (hN _ tn_4)) (fun _ h9 => h9) rfl dX1_firstBehind_33 ?_
        refine r_ic_ge (pc := 36) (tgt := 81) hx hb dX1_firstBehind_36 (by decide) hf (fun hf => ?_) (fun hf => ?_)
        · exact K5  _ hf (lv_sub hl [3] rfl)
        · refine lv_iload (pc := 39) hx hb dX1_firstBehind_39 (lv_at hl 5 rfl) ?_
          refine lv_iload_n (pc := 41) hx hb dX1_firstBehind_41 rfl (lv_at hl 3 rfl) ?_
          obtain ⟨k6, hk6, hf⟩ := lc1_e hf
          have K6 : ∀ (x7 : Int32) (ls : Array Slot), k6 x7 = some r → lv_has ls 7 [(0, .ref hw_A), (1, .ref sh_A), (2, .int p2), (3, .int p3), (4, .int v2), (5, .int y3)] → W p l e (roR 1 21) s m args below meth c s.heap [] 0 0 Q (F0 m 50 ls [.int x7]) := by
            intro x7 ls hf hl
            rw [hk6] at hf
            refine lv_istore (pc := 50) (lv' := [(6, .int x7), (0, .ref hw_A), (1, .ref sh_A), (2, .int p2), (3, .int p3), (4, .int v2), (5, .int y3)]) hx hb dX1_firstBehind_50 hl (by decide) rfl (fun ls hl => ?_)
            refine lv_aload_n (pc := 52) hx hb dX1_firstBehind_52 rfl (lv_at hl 1 rfl) ?_
            refine va_get (pc := 53) (D := D) (ci := 1) (v := .ref hw_cutsFrom_A) (C := RX1) (T := TX1) (N := 2) hx hb hts inG1 hown hK hP 0 rfl rfl 0 (by decide) (hts _ tw_166) (fun _ h9 => h9) rfl dX1_firstBehind_53 ?_
            refine lv_iload_n (pc := 56) hx hb dX1_firstBehind_56 rfl (lv_at hl 3 rfl) ?_
            refine lv_bipush (pc := 57) (v := (10 : Int32)) hx hb dX1_firstBehind_57 (by decide) ?_
            refine lv_imul (pc := 59) hx hb dX1_firstBehind_59 ?_
            refine lv_iload (pc := 60) hx hb dX1_firstBehind_60 (lv_at hl 6 rfl) ?_
            refine lv_iadd (pc := 62) hx hb dX1_firstBehind_62 ?_
            refine r_iald (pc := 63) hx hb hK hP 1 0 rfl rfl hf dX1_firstBehind_63 (fun v8 hf => ?_)
            refine lv_iload (pc := 64) hx hb dX1_firstBehind_64 (lv_at hl 0 rfl) ?_
            refine lv_iadd (pc := 66) hx hb dX1_firstBehind_66 ?_
            refine lv_iload (pc := 67) hx hb dX1_firstBehind_67 (lv_at hl 5 rfl) ?_
            refine r_ic_ne (pc := 69) (tgt := 75) hx hb dX1_firstBehind_69 (by decide) hf (fun hf => ?_) (fun hf => ?_)
            · refine lv_iinc (pc := 75) (v := (y3 + (1 : Int32))) (lv' := [(5, .int (y3 + (1 : Int32))), (6, .int x7), (0, .ref hw_A), (1, .ref sh_A), (2, .int p2), (3, .int p3), (4, .int v2)]) hx hb dX1_firstBehind_75 hl (k := 6) rfl (by rfl) (by decide) rfl (fun ls hl => ?_)
              refine lv_goto (pc := 78) (tgt := 30) hx hb dX1_firstBehind_78 (by decide) ?_
              exact ih _ _ hf (lv_sub hl [2, 3, 4, 5, 6, 0] rfl)
            · refine lv_iload (pc := 72) hx hb dX1_firstBehind_72 (lv_at hl 6 rfl) ?_
              exact hQ _ _ _ dX1_firstBehind_74 hf
          refine r_ic_ne (pc := 42) (tgt := 49) hx hb dX1_firstBehind_42 (by decide) hf (fun hf => ?_) (fun hf => ?_)
          · refine lv_iconst (pc := 49) (v := (1 : Int32)) hx hb dX1_firstBehind_49 (by decide) ?_
            exact K6 _ _ hf hl
          · refine lv_iconst (pc := 45) (v := (0 : Int32)) hx hb dX1_firstBehind_45 (by decide) ?_
            refine lv_goto (pc := 46) (tgt := 50) hx hb dX1_firstBehind_46 (by decide) ?_
            exact K6 _ _ hf hl
    exact L30 N _ _ hf (lv_sub hl [2, 3, 4, 5, 1, 0] rfl)
  · refine lv_iload_n (pc := 10) hx hb dX1_firstBehind_10 rfl (lv_at hl 3 rfl) ?_
    exact hQ _ _ _ dX1_firstBehind_11 hf
theorem F_X1_choose : CalF yX1_choose cX1_choose 4 none 2 := ⟨tw_407, tw_8, by decide +kernel⟩
set_option maxRecDepth 100000 in
set_option maxHeartbeats 4000000 in
theorem c_X1_choose (l : Launch) (D : va_G) (cI cJ cZ cS : ClassId) (N : Nat) (hw_A hw_cutsFrom_A hw_chosen_A sh_A sh_looks_A sh_openBits_A : Nat) (hw_cutsFrom : Nat → Int32) (hw_chosen : Nat → Int32) (sh_count : Int32) (sh_hands : Int32) (sh_looks : Nat → Int32) (sh_openBits : Nat → Int32) (p2 : Int32) (sz : Nat) (r_hw_chosen : Nat → Int32) (hf : f_X1_choose N hw_cutsFrom hw_chosen sh_count sh_hands p2 = some r_hw_chosen) : RwC l D cI cJ cZ cS yX1_choose cX1_choose 4 none 2 47 (w_X1X6 cI cJ cZ cS hw_A hw_cutsFrom_A hw_chosen_A sh_A sh_looks_A sh_openBits_A hw_cutsFrom hw_chosen sh_count sh_hands sh_looks sh_openBits) sz [.ref hw_A, .ref sh_A, .int p2] none (w_X1X6 cI cJ cZ cS hw_A hw_cutsFrom_A hw_chosen_A sh_A sh_looks_A sh_openBits_A hw_cutsFrom r_hw_chosen sh_count sh_hands sh_looks sh_openBits) := by
  refine rw_in_v (own := RX1) (by decide +kernel) rfl (Nat.le_of_ble_eq_true rfl) ?_
  intro p e s m args below meth c ls Q A E hA hQ hP hD hS hl
  obtain ⟨hx, hb, hml, hown, hts, hK, hN, hAO⟩ := id E
  have hl : lv_has ls 4 [(0, .ref hw_A), (1, .ref sh_A), (2, .int p2)] := hl
  unfold f_X1_choose at hf
  obtain ⟨H, hH⟩ : ∃ H, H = s.heap := ⟨_, rfl⟩
  obtain ⟨locs, hlocs⟩ : ∃ L : List Loc, L = [] := ⟨_, rfl⟩
  rw [show W p l e (roR 2 47) s m args below meth c s.heap [] 0 0 Q (F0 m 0 ls []) = W p l e (roR 2 47) s m args below meth c H locs 0 0 Q (F0 m 0 ls []) by rw [hH, hlocs]]
  replace hS : va_S A s.heap H locs := by rw [hH, hlocs]; exact hS
  replace hP : va_P D vwCl (w_X1X6 cI cJ cZ cS hw_A hw_cutsFrom_A hw_chosen_A sh_A sh_looks_A sh_openBits_A hw_cutsFrom hw_chosen sh_count sh_hands sh_looks sh_openBits) H := by rw [hH]; exact hP
  clear hH hlocs
  refine lv_aload_n (pc := 0) hx hb dX1_choose_0 rfl (lv_at hl 0 rfl) ?_
  refine va_get (pc := 1) (D := D) (ci := 1) (v := .ref hw_chosen_A) (C := RX1) (T := TX1) (N := 2) hx hb hts inG1 hown hK hP 0 rfl rfl 1 (by decide) (hts _ tw_167) (fun _ h9 => h9) rfl dX1_choose_1 ?_
  refine lv_iconst (pc := 4) (v := (0 : Int32)) hx hb dX1_choose_4 (by decide) ?_
  refine lv_aload_n (pc := 5) hx hb dX1_choose_5 rfl (lv_at hl 0 rfl) ?_
  refine lv_aload_n (pc := 6) hx hb dX1_choose_6 rfl (lv_at hl 1 rfl) ?_
  refine va_getN (pc := 7) (D := D) (ci := 6) (v := .int sh_count) (C := RX6) (T := TX6) (N := 4) hx hb hts inG6 hown hK hP 3 rfl rfl 0 (by decide) (va_Nw.use rfl (hN _ tn_4)) (fun _ h9 => h9) rfl dX1_choose_7 ?_
  obtain ⟨v1, hv10, hf⟩ := bd_e hf
  refine ro_Vi (pc := 10) (As := [.int sh_count]) (rest := [.int (0 : Int32), .ref hw_chosen_A]) E (c_X1_firstLeast l D cI cJ cZ cS N hw_A hw_cutsFrom_A hw_chosen_A hw_cutsFrom hw_chosen sh_count v1 hv10) F_X1_firstLeast rfl rfl tw_408 tw_410 tp_6 (hP.subm [0, 1, 2] rfl) ⟨by decide, by decide⟩ rfl hl.1 (Nat.le_of_ble_eq_true rfl) ⟨by decide, by decide⟩ rfl dX1_choose_10 ?_
  refine r_iast (pc := 13) hx hb hK hP hD hS 2 0 rfl rfl hf dX1_choose_13 (fun hw_chosen_2 H locs hf hP hD hS => ?_)
  have hP : va_P D vwCl (w_X1X6 cI cJ cZ cS hw_A hw_cutsFrom_A hw_chosen_A sh_A sh_looks_A sh_openBits_A hw_cutsFrom hw_chosen_2 sh_count sh_hands sh_looks sh_openBits) H := hP
  have hD : va_D A (w_X1X6 cI cJ cZ cS hw_A hw_cutsFrom_A hw_chosen_A sh_A sh_looks_A sh_openBits_A hw_cutsFrom hw_chosen_2 sh_count sh_hands sh_looks sh_openBits) := hD
  refine lv_iconst (pc := 14) (v := (1 : Int32)) hx hb dX1_choose_14 (by decide) ?_
  refine lv_istore_n (pc := 15) (lv' := [(3, .int (1 : Int32)), (0, .ref hw_A), (1, .ref sh_A), (2, .int p2)]) hx hb dX1_choose_15 rfl hl (by decide) rfl (fun ls hl => ?_)
  obtain ⟨k6, hk6, hf⟩ := lc1_e hf
  have K6 : ∀ (hw_chosen_7 : Nat → Int32) (H : Heap) (locs : List Loc) (ls : Array Slot), k6 hw_chosen_7 = some r_hw_chosen → va_P D vwCl (w_X1X6 cI cJ cZ cS hw_A hw_cutsFrom_A hw_chosen_A sh_A sh_looks_A sh_openBits_A hw_cutsFrom hw_chosen_7 sh_count sh_hands sh_looks sh_openBits) H → va_D A (w_X1X6 cI cJ cZ cS hw_A hw_cutsFrom_A hw_chosen_A sh_A sh_looks_A sh_openBits_A hw_cutsFrom hw_chosen_7 sh_count sh_hands sh_looks sh_openBits) → va_S A s.heap H locs → lv_has ls 4 [] → W p l e (roR 2 47) s m args below meth c H locs 0 0 Q (F0 m 47 ls []) := by
    intro hw_chosen_7 H locs ls hf hP hD hS hl
    rw [hk6] at hf
    cases hf
    exact hQ _ _ _ _ dX1_choose_47 hP hD hS
  have L16 : ∀ (n : Nat), ∀ (y3 : Int32) (hw_chosen_4 : Nat → Int32) (H : Heap) (locs : List Loc) (ls : Array Slot), f_X1_choose_L16 hw_cutsFrom sh_count sh_hands p2 N k6 n y3 hw_chosen_4 = some r_hw_chosen → va_P D vwCl (w_X1X6 cI cJ cZ cS hw_A hw_cutsFrom_A hw_chosen_A sh_A sh_looks_A sh_openBits_A hw_cutsFrom hw_chosen_4 sh_count sh_hands sh_looks sh_openBits) H → va_D A (w_X1X6 cI cJ cZ cS hw_A hw_cutsFrom_A hw_chosen_A sh_A sh_looks_A sh_openBits_A hw_cutsFrom hw_chosen_4 sh_count sh_hands sh_looks sh_openBits) → va_S A s.heap H locs → lv_has ls 4 [(0, .ref hw_A), (1, .ref sh_A), (2, .int p2), (3, .int y3)] → W p l e (roR 2 47) s m args below meth c H locs 0 0 Q (F0 m 16 ls []) := by
    intro n
    induction n with
    | zero =>
      intro y3 hw_chosen_4 H locs ls hf
      rw [f_X1_choose_L16] at hf
      cases hf
    | succ n ih =>
      intro y3 hw_chosen_4 H locs ls hf hP hD hS hl
      rw [f_X1_choose_L16] at hf
      refine lv_iload_n (pc := 16) hx hb dX1_choose_16 rfl (lv_at hl 3 rfl) ?_
      refine lv_iload_n (pc := 17) hx hb dX1_choose_17 rfl (lv_at hl 2 rfl) ?_
      refine r_ic_ge (pc := 18) (tgt := 47) hx hb dX1_choose_18 (by decide) hf (fun hf => ?_) (fun hf => ?_)
      · exact K6 _ _ _ _ hf hP hD hS (lv_sub hl [] rfl)
      · refine lv_aload_n (pc := 21) hx hb dX1_choose_21 rfl (lv_at hl 0 rfl) ?_
        refine va_get (pc := 22) (D := D) (ci := 1) (v := .ref hw_chosen_A) (C := RX1) (T := TX1) (N := 2) hx hb hts inG1 hown hK hP 0 rfl rfl 1 (by decide) (hts _ tw_167) (fun _ h9 => h9) rfl dX1_choose_22 ?_
        refine lv_iload_n (pc := 25) hx hb dX1_choose_25 rfl (lv_at hl 3 rfl) ?_
        refine lv_aload_n (pc := 26) hx hb dX1_choose_26 rfl (lv_at hl 0 rfl) ?_
        refine lv_aload_n (pc := 27) hx hb dX1_choose_27 rfl (lv_at hl 1 rfl) ?_
        refine lv_iload_n (pc := 28) hx hb dX1_choose_28 rfl (lv_at hl 3 rfl) ?_
        refine lv_aload_n (pc := 29) hx hb dX1_choose_29 rfl (lv_at hl 0 rfl) ?_
        refine va_get (pc := 30) (D := D) (ci := 1) (v := .ref hw_chosen_A) (C := RX1) (T := TX1) (N := 2) hx hb hts inG1 hown hK hP 0 rfl rfl 1 (by decide) (hts _ tw_167) (fun _ h9 => h9) rfl dX1_choose_30 ?_
        refine lv_iload_n (pc := 33) hx hb dX1_choose_33 rfl (lv_at hl 3 rfl) ?_
        refine lv_iconst (pc := 34) (v := (1 : Int32)) hx hb dX1_choose_34 (by decide) ?_
        refine lv_isub (pc := 35) hx hb dX1_choose_35 ?_
        refine r_iald (pc := 36) hx hb hK hP 2 0 rfl rfl hf dX1_choose_36 (fun v8 hf => ?_)
        obtain ⟨v9, hv37, hf⟩ := bd_e hf
        refine ro_Vi (pc := 37) (As := [.ref sh_A, .int y3, .int v8]) (rest := [.int y3, .ref hw_chosen_A]) E (c_X1_firstBehind l D cI cJ cZ cS N hw_A hw_cutsFrom_A hw_chosen_A sh_A sh_looks_A sh_openBits_A hw_cutsFrom hw_chosen_4 sh_count sh_hands sh_looks sh_openBits y3 v8 v9 hv37) F_X1_firstBehind rfl rfl tw_412 tw_414 tp_7 hP ⟨by decide, by decide⟩ rfl hl.1 (Nat.le_of_ble_eq_true rfl) ⟨by decide, by decide⟩ rfl dX1_choose_37 ?_
        refine r_iast (pc := 40) hx hb hK hP hD hS 2 0 rfl rfl hf dX1_choose_40 (fun hw_chosen_10 H locs hf hP hD hS => ?_)
        have hP : va_P D vwCl (w_X1X6 cI cJ cZ cS hw_A hw_cutsFrom_A hw_chosen_A sh_A sh_looks_A sh_openBits_A hw_cutsFrom hw_chosen_10 sh_count sh_hands sh_looks sh_openBits) H := hP
        have hD : va_D A (w_X1X6 cI cJ cZ cS hw_A hw_cutsFrom_A hw_chosen_A sh_A sh_looks_A sh_openBits_A hw_cutsFrom hw_chosen_10 sh_count sh_hands sh_looks sh_openBits) := hD
        refine lv_iinc (pc := 41) (v := (y3 + (1 : Int32))) (lv' := [(3, .int (y3 + (1 : Int32))), (0, .ref hw_A), (1, .ref sh_A), (2, .int p2)]) hx hb dX1_choose_41 hl (k := 3) rfl (by rfl) (by decide) rfl (fun ls hl => ?_)
        refine lv_goto (pc := 44) (tgt := 16) hx hb dX1_choose_44 (by decide) ?_
        exact ih _ _ _ _ _ hf hP hD hS (lv_sub hl [1, 2, 3, 0] rfl)
  exact L16 N _ _ _ _ _ hf hP hD hS (lv_sub hl [1, 2, 3, 0] rfl)
theorem F_X1_solve : CalF yX1_solve cX1_solve 5 (some .int) 2 := ⟨tw_389, tw_8, by decide +kernel⟩
set_option maxRecDepth 100000 in
set_option maxHeartbeats 4000000 in
theorem c_X1_solve (l : Launch) (D : va_G) (cI cJ cZ cS : ClassId) (N : Nat) (hw_A hw_cutsFrom_A hw_chosen_A sh_A sh_looks_A sh_openBits_A : Nat) (hw_cutsFrom : Nat → Int32) (hw_chosen : Nat → Int32) (sh_count : Int32) (sh_hands : Int32) (sh_looks : Nat → Int32) (sh_openBits : Nat → Int32) (p2 : Int32) (sz : Nat) (r : Int32) (r_hw_cutsFrom : Nat → Int32) (r_hw_chosen : Nat → Int32) (hf : f_X1_solve N hw_cutsFrom hw_chosen sh_count sh_hands sh_openBits p2 = some (r, r_hw_cutsFrom, r_hw_chosen)) : RwC l D cI cJ cZ cS yX1_solve cX1_solve 5 (some .int) 3 73 (w_X1X6 cI cJ cZ cS hw_A hw_cutsFrom_A hw_chosen_A sh_A sh_looks_A sh_openBits_A hw_cutsFrom hw_chosen sh_count sh_hands sh_looks sh_openBits) sz [.ref hw_A, .ref sh_A, .int p2] (some (.int r)) (w_X1X6 cI cJ cZ cS hw_A hw_cutsFrom_A hw_chosen_A sh_A sh_looks_A sh_openBits_A r_hw_cutsFrom r_hw_chosen sh_count sh_hands sh_looks sh_openBits) := by
  refine rw_in_i (own := RX1) (by decide +kernel) rfl (Nat.le_of_ble_eq_true rfl) ?_
  intro p e s m args below meth c ls Q A E hA hQ hP hD hS hl
  obtain ⟨hx, hb, hml, hown, hts, hK, hN, hAO⟩ := id E
  have hl : lv_has ls 5 [(0, .ref hw_A), (1, .ref sh_A), (2, .int p2)] := hl
  unfold f_X1_solve at hf
  obtain ⟨H, hH⟩ : ∃ H, H = s.heap := ⟨_, rfl⟩
  obtain ⟨locs, hlocs⟩ : ∃ L : List Loc, L = [] := ⟨_, rfl⟩
  rw [show W p l e (roR 3 73) s m args below meth c s.heap [] 0 0 Q (F0 m 0 ls []) = W p l e (roR 3 73) s m args below meth c H locs 0 0 Q (F0 m 0 ls []) by rw [hH, hlocs]]
  replace hS : va_S A s.heap H locs := by rw [hH, hlocs]; exact hS
  replace hP : va_P D vwCl (w_X1X6 cI cJ cZ cS hw_A hw_cutsFrom_A hw_chosen_A sh_A sh_looks_A sh_openBits_A hw_cutsFrom hw_chosen sh_count sh_hands sh_looks sh_openBits) H := by rw [hH]; exact hP
  clear hH hlocs
  refine lv_iconst (pc := 0) (v := (0 : Int32)) hx hb dX1_solve_0 (by decide) ?_
  refine lv_istore_n (pc := 1) (lv' := [(3, .int (0 : Int32)), (0, .ref hw_A), (1, .ref sh_A), (2, .int p2)]) hx hb dX1_solve_1 rfl hl (by decide) rfl (fun ls hl => ?_)
  refine lv_iload_n (pc := 2) hx hb dX1_solve_2 rfl (lv_at hl 3 rfl) ?_
  refine lv_iconst (pc := 3) (v := (1 : Int32)) hx hb dX1_solve_3 (by decide) ?_
  refine lv_isub (pc := 4) hx hb dX1_solve_4 ?_
  refine lv_istore (pc := 5) (lv' := [(4, .int (p2 - (1 : Int32))), (3, .int (0 : Int32)), (0, .ref hw_A), (1, .ref sh_A), (2, .int p2)]) hx hb dX1_solve_5 hl (by decide) rfl (fun ls hl => ?_)
  obtain ⟨k5, hk5, hf⟩ := lc2_e hf
  have K5 : ∀ (z6 : Int32) (hw_cutsFrom_7 : Nat → Int32) (H : Heap) (locs : List Loc) (ls : Array Slot), k5 z6 hw_cutsFrom_7 = some (r, r_hw_cutsFrom, r_hw_chosen) → va_P D vwCl (w_X1X6 cI cJ cZ cS hw_A hw_cutsFrom_A hw_chosen_A sh_A sh_looks_A sh_openBits_A hw_cutsFrom_7 hw_chosen sh_count sh_hands sh_looks sh_openBits) H → va_D A (w_X1X6 cI cJ cZ cS hw_A hw_cutsFrom_A hw_chosen_A sh_A sh_looks_A sh_openBits_A hw_cutsFrom_7 hw_chosen sh_count sh_hands sh_looks sh_openBits) → va_S A s.heap H locs → lv_has ls 5 [(0, .ref hw_A), (1, .ref sh_A), (2, .int p2), (3, .int z6)] → W p l e (roR 3 73) s m args below meth c H locs 0 0 Q (F0 m 40 ls []) := by
    intro z6 hw_cutsFrom_7 H locs ls hf hP hD hS hl
    rw [hk5] at hf
    refine lv_iload_n (pc := 40) hx hb dX1_solve_40 rfl (lv_at hl 3 rfl) ?_
    refine lv_sipush (pc := 41) (v := (1000 : Int32)) hx hb dX1_solve_41 (by decide) ?_
    refine r_ic_lt (pc := 44) (tgt := 50) hx hb dX1_solve_44 (by decide) hf (fun hf => ?_) (fun hf => ?_)
    · refine lv_aload_n (pc := 50) hx hb dX1_solve_50 rfl (lv_at hl 0 rfl) ?_
      refine lv_aload_n (pc := 51) hx hb dX1_solve_51 rfl (lv_at hl 1 rfl) ?_
      refine lv_iload_n (pc := 52) hx hb dX1_solve_52 rfl (lv_at hl 2 rfl) ?_
      obtain ⟨hw_chosen_12, hv53, hf⟩ := bd_e hf
      refine rw_Vv (pc := 53) (As := [.ref sh_A, .int p2]) (rest := []) (wr := []) (wn := (w_X1X6 cI cJ cZ cS hw_A hw_cutsFrom_A hw_chosen_A sh_A sh_looks_A sh_openBits_A hw_cutsFrom_7 hw_chosen_12 sh_count sh_hands sh_looks sh_openBits)) E (c_X1_choose l D cI cJ cZ cS N hw_A hw_cutsFrom_A hw_chosen_A sh_A sh_looks_A sh_openBits_A hw_cutsFrom_7 hw_chosen sh_count sh_hands sh_looks sh_openBits p2 H.size hw_chosen_12 hv53) F_X1_choose rfl rfl tw_404 tw_406 tp_5 hP hD hS hA [0, 1, 2, 3, 4, 5] [] [0, 1, 2, 3, 4, 5] rfl rfl (by decide) (by decide) (by decide) rfl (by decide) ⟨by decide, by decide⟩ rfl hl.1 (Nat.le_of_ble_eq_true rfl) ⟨by decide, by decide⟩ rfl dX1_solve_53 (fun H locs hP hD hS => ?_)
      refine lv_iload_n (pc := 56) hx hb dX1_solve_56 rfl (lv_at hl 3 rfl) ?_
      cases hf
      exact hQ _ _ _ _ _ dX1_solve_57 rfl hP hD hS
    · refine lv_bipush (pc := 47) (v := (-6 : Int32)) hx hb dX1_solve_47 (by decide) ?_
      cases hf
      exact hQ _ _ _ _ _ dX1_solve_49 rfl hP hD hS
  have L7 : ∀ (n : Nat), ∀ (y1 : Int32) (y2 : Int32) (hw_cutsFrom_3 : Nat → Int32) (H : Heap) (locs : List Loc) (ls : Array Slot), f_X1_solve_L7 sh_count sh_hands sh_openBits p2 N k5 n y1 y2 hw_cutsFrom_3 = some (r, r_hw_cutsFrom, r_hw_chosen) → va_P D vwCl (w_X1X6 cI cJ cZ cS hw_A hw_cutsFrom_A hw_chosen_A sh_A sh_looks_A sh_openBits_A hw_cutsFrom_3 hw_chosen sh_count sh_hands sh_looks sh_openBits) H → va_D A (w_X1X6 cI cJ cZ cS hw_A hw_cutsFrom_A hw_chosen_A sh_A sh_looks_A sh_openBits_A hw_cutsFrom_3 hw_chosen sh_count sh_hands sh_looks sh_openBits) → va_S A s.heap H locs → lv_has ls 5 [(0, .ref hw_A), (1, .ref sh_A), (2, .int p2), (3, .int y1), (4, .int y2)] → W p l e (roR 3 73) s m args below meth c H locs 0 0 Q (F0 m 7 ls []) := by
    intro n
    induction n with
    | zero =>
      intro y1 y2 hw_cutsFrom_3 H locs ls hf
      rw [f_X1_solve_L7] at hf
      cases hf
    | succ n ih =>
      intro y1 y2 hw_cutsFrom_3 H locs ls hf hP hD hS hl
      rw [f_X1_solve_L7] at hf
      refine lv_iload (pc := 7) hx hb dX1_solve_7 (lv_at hl 4 rfl) ?_
      refine r_if_lt (pc := 9) (tgt := 40) hx hb dX1_solve_9 (by decide) hf (fun hf => ?_) (fun hf => ?_)
      · exact K5 _ _ _ _ _ hf hP hD hS (lv_sub hl [0, 1, 2, 3] rfl)
      · refine lv_aload_n (pc := 12) hx hb dX1_solve_12 rfl (lv_at hl 0 rfl) ?_
        refine lv_aload_n (pc := 13) hx hb dX1_solve_13 rfl (lv_at hl 1 rfl) ?_
        refine lv_iload (pc := 14) hx hb dX1_solve_14 (lv_at hl 4 rfl) ?_
        refine lv_iload (pc := 16) hx hb dX1_solve_16 (lv_at hl 4 rfl) ?_
        refine lv_iload_n (pc := 18) hx hb dX1_solve_18 rfl (lv_at hl 2 rfl) ?_
        refine lv_iconst (pc := 19) (v := (1 : Int32)) hx hb dX1_solve_19 (by decide) ?_
        refine lv_isub (pc := 20) hx hb dX1_solve_20 ?_
        obtain ⟨k8, hk8, hf⟩ := lc1_e hf
        have K8 : ∀ (x9 : Int32) (H : Heap) (locs : List Loc) (ls : Array Slot), k8 x9 = some (r, r_hw_cutsFrom, r_hw_chosen) → va_P D vwCl (w_X1X6 cI cJ cZ cS hw_A hw_cutsFrom_A hw_chosen_A sh_A sh_looks_A sh_openBits_A hw_cutsFrom_3 hw_chosen sh_count sh_hands sh_looks sh_openBits) H → va_D A (w_X1X6 cI cJ cZ cS hw_A hw_cutsFrom_A hw_chosen_A sh_A sh_looks_A sh_openBits_A hw_cutsFrom_3 hw_chosen sh_count sh_hands sh_looks sh_openBits) → va_S A s.heap H locs → lv_has ls 5 [(0, .ref hw_A), (1, .ref sh_A), (2, .int p2), (3, .int y1), (4, .int y2)] → W p l e (roR 3 73) s m args below meth c H locs 0 0 Q (F0 m 29 ls [.int x9, .int y2, .ref sh_A, .ref hw_A]) := by
          intro x9 H locs ls hf hP hD hS hl
          rw [hk8] at hf
          refine lv_iload_n (pc := 29) hx hb dX1_solve_29 rfl (lv_at hl 3 rfl) ?_
          obtain ⟨⟨v10, hw_cutsFrom_11⟩, hv30, hf⟩ := bd_e hf
          refine rw_Vi (pc := 30) (As := [.ref sh_A, .int y2, .int x9, .int y1]) (rest := []) (wr := []) (wn := (w_X1X6 cI cJ cZ cS hw_A hw_cutsFrom_A hw_chosen_A sh_A sh_looks_A sh_openBits_A hw_cutsFrom_11 hw_chosen sh_count sh_hands sh_looks sh_openBits)) E (c_X1_fillRow l D cI cJ cZ cS N hw_A hw_cutsFrom_A hw_chosen_A sh_A sh_looks_A sh_openBits_A hw_cutsFrom_3 hw_chosen sh_count sh_hands sh_looks sh_openBits y2 x9 y1 H.size v10 hw_cutsFrom_11 hv30) F_X1_fillRow rfl rfl tw_390 tw_392 tp_3 hP hD hS hA [0, 1, 2, 3, 4, 5] [] [0, 1, 2, 3, 4, 5] rfl rfl (by decide) (by decide) (by decide) rfl (by decide) ⟨by decide, by decide⟩ rfl hl.1 (Nat.le_of_ble_eq_true rfl) ⟨by decide, by decide⟩ rfl dX1_solve_30 (fun H locs hP hD hS => ?_)
          refine lv_istore_n (pc := 33) (lv' := [(3, .int v10), (0, .ref hw_A), (1, .ref sh_A), (2, .int p2), (4, .int y2)]) hx hb dX1_solve_33 rfl hl (by decide) rfl (fun ls hl => ?_)
          refine lv_iinc (pc := 34) (v := (y2 + (-1 : Int32))) (lv' := [(4, .int (y2 + (-1 : Int32))), (3, .int v10), (0, .ref hw_A), (1, .ref sh_A), (2, .int p2)]) hx hb dX1_solve_34 hl (k := 4) rfl (by rfl) (by decide) rfl (fun ls hl => ?_)
          refine lv_goto (pc := 37) (tgt := 7) hx hb dX1_solve_37 (by decide) ?_
          exact ih _ _ _ _ _ _ hf hP hD hS (lv_sub hl [2, 3, 4, 1, 0] rfl)
        refine r_ic_ne (pc := 21) (tgt := 28) hx hb dX1_solve_21 (by decide) hf (fun hf => ?_) (fun hf => ?_)
        · refine lv_iconst (pc := 28) (v := (0 : Int32)) hx hb dX1_solve_28 (by decide) ?_
          exact K8 _ _ _ _ hf hP hD hS hl
        · refine lv_iconst (pc := 24) (v := (1 : Int32)) hx hb dX1_solve_24 (by decide) ?_
          refine lv_goto (pc := 25) (tgt := 29) hx hb dX1_solve_25 (by decide) ?_
          exact K8 _ _ _ _ hf hP hD hS hl
  exact L7 N _ _ _ _ _ _ hf hP hD hS (lv_sub hl [2, 3, 4, 1, 0] rfl)
