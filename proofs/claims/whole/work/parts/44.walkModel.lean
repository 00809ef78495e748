theorem F_X9_openAt : CalF yX9_openAt cX9_openAt 6 (some .int) 1 := ⟨tw_923, tw_10, by decide +kernel⟩
set_option maxRecDepth 100000 in
set_option maxHeartbeats 4000000 in
theorem c_X9_openAt (l : Launch) (D : va_G) (cI cJ cZ cS : ClassId) (N : Nat) (mo_A mo_looks_A mo_period_A mo_shut_A mo_phase_A mo_quarters_A mo_tall_A mo_pairs_A mo_pad_A mo_cuts_A mo_at_A mo_first_A mo_kept_A mo_isKept_A : Nat) (mo_people : Int32) (mo_shots : Int32) (mo_looks : Nat → Int32) (mo_bride : Int32) (mo_hands : Int32) (mo_period : Nat → Int32) (mo_shut : Nat → Int32) (mo_phase : Nat → Int32) (mo_flash : Int32) (mo_quarters : Nat → Int32) (mo_tired : Int32) (mo_rows : Int32) (mo_columns : Int32) (mo_rise : Int32) (mo_tall : Nat → Int32) (mo_pairs : Nat → Int32) (mo_pad : Nat → Int32) (mo_padMany : Int32) (mo_cuts : Nat → Int32) (mo_at : Nat → Int32) (mo_first : Nat → Int32) (mo_kept : Nat → Int32) (mo_isKept : Nat → Int32) (mo_keptAt : Int32) (mo_isWriting : Int32) (p1 : Int32) (r : Int32) (hf : f_X9_openAt N mo_people mo_period mo_shut mo_phase mo_flash p1 = some r) : RoC l D cI cJ cZ cS yX9_openAt cX9_openAt 6 (some .int) 1 25 (w_X9 cI cJ cZ cS mo_A mo_looks_A mo_period_A mo_shut_A mo_phase_A mo_quarters_A mo_tall_A mo_pairs_A mo_pad_A mo_cuts_A mo_at_A mo_first_A mo_kept_A mo_isKept_A mo_people mo_shots mo_looks mo_bride mo_hands mo_period mo_shut mo_phase mo_flash mo_quarters mo_tired mo_rows mo_columns mo_rise mo_tall mo_pairs mo_pad mo_padMany mo_cuts mo_at mo_first mo_kept mo_isKept mo_keptAt mo_isWriting) [.ref mo_A, .int p1] (some (.int r)) := by
  refine ro_in_i (own := RX9) (by decide +kernel) rfl (Nat.le_of_ble_eq_true rfl) ?_
  intro p e s m args below meth c ls Q E hQ hP hl
  obtain ⟨hx, hb, hml, hown, hts, hK, hN, hAO⟩ := id E
  have hl : lv_has ls 6 [(0, .ref mo_A), (1, .int p1)] := hl
  unfold f_X9_openAt at hf
  refine lv_iconst (pc := 0) (v := (0 : Int32)) hx hb dX9_openAt_0 (by decide) ?_
  refine lv_istore_n (pc := 1) (lv' := [(2, .int (0 : Int32)), (0, .ref mo_A), (1, .int p1)]) hx hb dX9_openAt_1 rfl hl (by decide) rfl (fun ls hl => ?_)
  refine lv_aload_n (pc := 2) hx hb dX9_openAt_2 rfl (lv_at hl 1 rfl) ?_
  refine va_get (pc := 3) (D := D) (ci := 9) (v := .int mo_flash) (C := RX9) (T := TX9) (N := 25) hx hb hts inG9 hown hK hP 0 rfl rfl 8 (by decide) (hts _ tw_719) (fun _ h9 => h9) rfl dX9_openAt_3 ?_
  obtain ⟨k2, hk2, hf⟩ := lc1_e hf
  have K2 : ∀ (x4 : Int32) (ls : Array Slot), k2 x4 = some r → lv_has ls 6 [(0, .ref mo_A), (1, .int p1), (2, .int (0 : Int32))] → W p l e (roR 1 25) s m args below meth c s.heap [] 0 0 Q (F0 m 36 ls [.int x4]) := by
    intro x4 ls hf hl
    rw [hk2] at hf
    refine lv_istore_n (pc := 36) (lv' := [(3, .int x4), (0, .ref mo_A), (1, .int p1), (2, .int (0 : Int32))]) hx hb dX9_openAt_36 rfl hl (by decide) rfl (fun ls hl => ?_)
    refine lv_iconst (pc := 37) (v := (0 : Int32)) hx hb dX9_openAt_37 (by decide) ?_
    refine lv_istore (pc := 38) (lv' := [(4, .int (0 : Int32)), (3, .int x4), (0, .ref mo_A), (1, .int p1), (2, .int (0 : Int32))]) hx hb dX9_openAt_38 hl (by decide) rfl (fun ls hl => ?_)
    obtain ⟨k8, hk8, hf⟩ := lc1_e hf
    have K8 : ∀ (z9 : Int32) (ls : Array Slot), k8 z9 = some r → lv_has ls 6 [(2, .int z9)] → W p l e (roR 1 25) s m args below meth c s.heap [] 0 0 Q (F0 m 109 ls []) := by
      intro z9 ls hf hl
      rw [hk8] at hf
      refine lv_iload_n (pc := 109) hx hb dX9_openAt_109 rfl (lv_at hl 0 rfl) ?_
      exact hQ _ _ _ dX9_openAt_110 hf
    have L40 : ∀ (n : Nat), ∀ (y5 : Int32) (y6 : Int32) (ls : Array Slot), f_X9_openAt_L40 mo_people mo_period mo_shut mo_phase p1 x4 k8 n y5 y6 = some r → lv_has ls 6 [(0, .ref mo_A), (1, .int p1), (2, .int y5), (3, .int x4), (4, .int y6)] → W p l e (roR 1 25) s m args below meth c s.heap [] 0 0 Q (F0 m 40 ls []) := by
      intro n
      induction n with
      | zero =>
        intro y5 y6 ls hf
        rw [f_X9_openAt_L40] at hf
        cases hf
      | succ n ih =>
        intro y5 y6 ls hf hl
        rw [f_X9_openAt_L40] at hf
        refine lv_iload (pc := 40) hx hb dX9_openAt_40 (lv_at hl 4 rfl) ?_
        refine lv_aload_n (pc := 42) hx hb dX9_openAt_42 rfl (lv_at hl 0 rfl) ?_
        refine va_get (pc := 43) (D := D) (ci := 9) (v := .int mo_people) (C := RX9) (T := TX9) (N := 25) hx hb hts inG9 hown hK hP 0 rfl rfl 0 (by decide) (hts _ tw_711) (fun _ h9 => h9) rfl dX9_openAt_43 ?_
        refine r_ic_ge (pc := 46) (tgt := 109) hx hb dX9_openAt_46 (by decide) hf (fun hf => ?_) (fun hf => ?_)
        · exact K8 _ _ hf (lv_sub hl [2] rfl)
        · refine lv_iload_n (pc := 49) hx hb dX9_openAt_49 rfl (lv_at hl 3 rfl) ?_
          obtain ⟨k11, hk11, hf⟩ := lc1_e hf
          have K11 : ∀ (x16 : Int32) (ls : Array Slot), k11 x16 = some r → lv_has ls 6 [(0, .ref mo_A), (1, .int p1), (2, .int y5), (3, .int x4), (4, .int y6)] → W p l e (roR 1 25) s m args below meth c s.heap [] 0 0 Q (F0 m 85 ls [.int x16]) := by
            intro x16 ls hf hl
            rw [hk11] at hf
            refine lv_istore (pc := 85) (lv' := [(5, .int x16), (0, .ref mo_A), (1, .int p1), (2, .int y5), (3, .int x4), (4, .int y6)]) hx hb dX9_openAt_85 hl (by decide) rfl (fun ls hl => ?_)
            refine lv_iload_n (pc := 87) hx hb dX9_openAt_87 rfl (lv_at hl 3 rfl) ?_
            refine lv_iload (pc := 88) hx hb dX9_openAt_88 (lv_at hl 0 rfl) ?_
            obtain ⟨k17, hk17, hf⟩ := lc1_e hf
            have K17 : ∀ (x18 : Int32) (ls : Array Slot), k17 x18 = some r → lv_has ls 6 [(0, .ref mo_A), (1, .int p1), (3, .int x4), (4, .int y6)] → W p l e (roR 1 25) s m args below meth c s.heap [] 0 0 Q (F0 m 101 ls [.int x18, .int y5]) := by
              intro x18 ls hf hl
              rw [hk17] at hf
              refine lv_ior (pc := 101) hx hb dX9_openAt_101 ?_
              refine lv_istore_n (pc := 102) (lv' := [(2, .int (y5 ||| x18)), (0, .ref mo_A), (1, .int p1), (3, .int x4), (4, .int y6)]) hx hb dX9_openAt_102 rfl hl (by decide) rfl (fun ls hl => ?_)
              refine lv_iinc (pc := 103) (v := (y6 + (1 : Int32))) (lv' := [(4, .int (y6 + (1 : Int32))), (2, .int (y5 ||| x18)), (0, .ref mo_A), (1, .int p1), (3, .int x4)]) hx hb dX9_openAt_103 hl (k := 4) rfl (by rfl) (by decide) rfl (fun ls hl => ?_)
              refine lv_goto (pc := 106) (tgt := 40) hx hb dX9_openAt_106 (by decide) ?_
              exact ih _ _ _ hf (lv_sub hl [2, 3, 1, 4, 0] rfl)
            refine r_if_eq (pc := 90) (tgt := 100) hx hb dX9_openAt_90 (by decide) hf (fun hf => ?_) (fun hf => ?_)
            · refine lv_iconst (pc := 100) (v := (0 : Int32)) hx hb dX9_openAt_100 (by decide) ?_
              exact K17 _ _ hf (lv_sub hl [1, 2, 4, 5] rfl)
            · refine lv_iconst (pc := 93) (v := (1 : Int32)) hx hb dX9_openAt_93 (by decide) ?_
              refine lv_iload (pc := 94) hx hb dX9_openAt_94 (lv_at hl 5 rfl) ?_
              refine lv_ishl (pc := 96) hx hb dX9_openAt_96 ?_
              refine lv_goto (pc := 97) (tgt := 101) hx hb dX9_openAt_97 (by decide) ?_
              exact K17 _ _ hf (lv_sub hl [1, 2, 4, 5] rfl)
          obtain ⟨k10, hk10, hf⟩ := lc0_e hf
          have K10 : ∀  (ls : Array Slot), k10 = some r → lv_has ls 6 [(0, .ref mo_A), (1, .int p1), (2, .int y5), (3, .int x4), (4, .int y6)] → W p l e (roR 1 25) s m args below meth c s.heap [] 0 0 Q (F0 m 84 ls []) := by
            intro  ls hf hl
            rw [hk10] at hf
            refine lv_iconst (pc := 84) (v := (0 : Int32)) hx hb dX9_openAt_84 (by decide) ?_
            exact K11 _ _ hf hl
          refine r_if_ne (pc := 50) (tgt := 84) hx hb dX9_openAt_50 (by decide) hf (fun hf => ?_) (fun hf => ?_)
          · exact K10  _ hf hl
          · refine lv_iload_n (pc := 53) hx hb dX9_openAt_53 rfl (lv_at hl 1 rfl) ?_
            refine lv_aload_n (pc := 54) hx hb dX9_openAt_54 rfl (lv_at hl 0 rfl) ?_
            refine va_get (pc := 55) (D := D) (ci := 9) (v := .ref mo_phase_A) (C := RX9) (T := TX9) (N := 25) hx hb hts inG9 hown hK hP 0 rfl rfl 7 (by decide) (hts _ tw_718) (fun _ h9 => h9) rfl dX9_openAt_55 ?_
            refine lv_iload (pc := 58) hx hb dX9_openAt_58 (lv_at hl 4 rfl) ?_
            refine r_iald (pc := 60) hx hb hK hP 4 0 rfl rfl hf dX9_openAt_60 (fun v12 hf => ?_)
            refine lv_iadd (pc := 61) hx hb dX9_openAt_61 ?_
            refine lv_aload_n (pc := 62) hx hb dX9_openAt_62 rfl (lv_at hl 0 rfl) ?_
            refine va_get (pc := 63) (D := D) (ci := 9) (v := .ref mo_period_A) (C := RX9) (T := TX9) (N := 25) hx hb hts inG9 hown hK hP 0 rfl rfl 5 (by decide) (hts _ tw_716) (fun _ h9 => h9) rfl dX9_openAt_63 ?_
            refine lv_iload (pc := 66) hx hb dX9_openAt_66 (lv_at hl 4 rfl) ?_
            refine r_iald (pc := 68) hx hb hK hP 2 0 rfl rfl hf dX9_openAt_68 (fun v13 hf => ?_)
            refine r_irem (pc := 69) hx hb hf dX9_openAt_69 (fun v14 hf => ?_)
            refine lv_aload_n (pc := 70) hx hb dX9_openAt_70 rfl (lv_at hl 0 rfl) ?_
            refine va_get (pc := 71) (D := D) (ci := 9) (v := .ref mo_shut_A) (C := RX9) (T := TX9) (N := 25) hx hb hts inG9 hown hK hP 0 rfl rfl 6 (by decide) (hts _ tw_717) (fun _ h9 => h9) rfl dX9_openAt_71 ?_
            refine lv_iload (pc := 74) hx hb dX9_openAt_74 (lv_at hl 4 rfl) ?_
            refine r_iald (pc := 76) hx hb hK hP 3 0 rfl rfl hf dX9_openAt_76 (fun v15 hf => ?_)
            refine r_ic_lt (pc := 77) (tgt := 84) hx hb dX9_openAt_77 (by decide) hf (fun hf => ?_) (fun hf => ?_)
            · exact K10  _ hf hl
            · refine lv_iconst (pc := 80) (v := (1 : Int32)) hx hb dX9_openAt_80 (by decide) ?_
              refine lv_goto (pc := 81) (tgt := 85) hx hb dX9_openAt_81 (by decide) ?_
              exact K11 _ _ hf hl
    exact L40 N _ _ _ hf (lv_sub hl [2, 3, 4, 1, 0] rfl)
  obtain ⟨k1, hk1, hf⟩ := lc0_e hf
  have K1 : ∀  (ls : Array Slot), k1 = some r → lv_has ls 6 [(0, .ref mo_A), (1, .int p1), (2, .int (0 : Int32))] → W p l e (roR 1 25) s m args below meth c s.heap [] 0 0 Q (F0 m 35 ls []) := by
    intro  ls hf hl
    rw [hk1] at hf
    refine lv_iconst (pc := 35) (v := (0 : Int32)) hx hb dX9_openAt_35 (by decide) ?_
    exact K2 _ _ hf hl
  refine r_if_lt (pc := 6) (tgt := 35) hx hb dX9_openAt_6 (by decide) hf (fun hf => ?_) (fun hf => ?_)
  · exact K1  _ hf (lv_sub hl [1, 2, 0] rfl)
  · refine lv_iload_n (pc := 9) hx hb dX9_openAt_9 rfl (lv_at hl 2 rfl) ?_
    refine lv_i2l (pc := 10) (v := (Int32.toInt64 p1)) hx hb dX9_openAt_10 rfl ?_
    refine lv_aload_n (pc := 11) hx hb dX9_openAt_11 rfl (lv_at hl 1 rfl) ?_
    refine va_get (pc := 12) (D := D) (ci := 9) (v := .int mo_flash) (C := RX9) (T := TX9) (N := 25) hx hb hts inG9 hown hK hP 0 rfl rfl 8 (by decide) (hts _ tw_719) (fun _ h9 => h9) rfl dX9_openAt_12 ?_
    refine lv_iconst (pc := 15) (v := (1 : Int32)) hx hb dX9_openAt_15 (by decide) ?_
    refine lv_iadd (pc := 16) hx hb dX9_openAt_16 ?_
    refine lv_i2l (pc := 17) (v := (Int32.toInt64 (mo_flash + (1 : Int32)))) hx hb dX9_openAt_17 rfl ?_
    refine lv_aload_n (pc := 18) hx hb dX9_openAt_18 rfl (lv_at hl 1 rfl) ?_
    refine va_get (pc := 19) (D := D) (ci := 9) (v := .int mo_flash) (C := RX9) (T := TX9) (N := 25) hx hb hts inG9 hown hK hP 0 rfl rfl 8 (by decide) (hts _ tw_719) (fun _ h9 => h9) rfl dX9_openAt_19 ?_
    refine lv_iconst (pc := 22) (v := (2 : Int32)) hx hb dX9_openAt_22 (by decide) ?_
    refine lv_iadd (pc := 23) hx hb dX9_openAt_23 ?_
    refine lv_i2l (pc := 24) (v := (Int32.toInt64 (mo_flash + (2 : Int32)))) hx hb dX9_openAt_24 rfl ?_
    obtain ⟨v3, hv25, hf⟩ := bd_e hf
    refine ro_Si (pc := 25) (As := [.long (Int32.toInt64 p1), .long (Int32.toInt64 (mo_flash + (1 : Int32))), .long (Int32.toInt64 (mo_flash + (2 : Int32)))]) (rest := []) E (c_X9_in l D cI cJ cZ cS (Int32.toInt64 p1) (Int32.toInt64 (mo_flash + (1 : Int32))) (Int32.toInt64 (mo_flash + (2 : Int32))) v3 hv25) F_X9_in tw_793 tw_794  va_P_nil ⟨by decide, by decide⟩ rfl hl.1 (Nat.le_of_ble_eq_true rfl) ⟨by decide, by decide⟩ rfl dX9_openAt_25 ?_
    refine r_if_eq (pc := 28) (tgt := 35) hx hb dX9_openAt_28 (by decide) hf (fun hf => ?_) (fun hf => ?_)
    · exact K1  _ hf (lv_sub hl [1, 2, 0] rfl)
    · refine lv_iconst (pc := 31) (v := (1 : Int32)) hx hb dX9_openAt_31 (by decide) ?_
      refine lv_goto (pc := 32) (tgt := 36) hx hb dX9_openAt_32 (by decide) ?_
      exact K2 _ _ hf (lv_sub hl [1, 2, 0] rfl)
theorem F_X9_open : CalF yX9_open cX9_open 2 (some .int) 1 := ⟨tw_919, tw_10, by decide +kernel⟩
set_option maxRecDepth 100000 in
set_option maxHeartbeats 4000000 in
theorem c_X9_open (l : Launch) (D : va_G) (cI cJ cZ cS : ClassId) (N : Nat) (mo_A mo_looks_A mo_period_A mo_shut_A mo_phase_A mo_quarters_A mo_tall_A mo_pairs_A mo_pad_A mo_cuts_A mo_at_A mo_first_A mo_kept_A mo_isKept_A : Nat) (mo_people : Int32) (mo_shots : Int32) (mo_looks : Nat → Int32) (mo_bride : Int32) (mo_hands : Int32) (mo_period : Nat → Int32) (mo_shut : Nat → Int32) (mo_phase : Nat → Int32) (mo_flash : Int32) (mo_quarters : Nat → Int32) (mo_tired : Int32) (mo_rows : Int32) (mo_columns : Int32) (mo_rise : Int32) (mo_tall : Nat → Int32) (mo_pairs : Nat → Int32) (mo_pad : Nat → Int32) (mo_padMany : Int32) (mo_cuts : Nat → Int32) (mo_at : Nat → Int32) (mo_first : Nat → Int32) (mo_kept : Nat → Int32) (mo_isKept : Nat → Int32) (mo_keptAt : Int32) (mo_isWriting : Int32) (p1 : Int32) (r : Int32) (hf : f_X9_open N mo_people mo_period mo_shut mo_phase mo_flash p1 = some r) : RoC l D cI cJ cZ cS yX9_open cX9_open 2 (some .int) 2 50 (w_X9 cI cJ cZ cS mo_A mo_looks_A mo_period_A mo_shut_A mo_phase_A mo_quarters_A mo_tall_A mo_pairs_A mo_pad_A mo_cuts_A mo_at_A mo_first_A mo_kept_A mo_isKept_A mo_people mo_shots mo_looks mo_bride mo_hands mo_period mo_shut mo_phase mo_flash mo_quarters mo_tired mo_rows mo_columns mo_rise mo_tall mo_pairs mo_pad mo_padMany mo_cuts mo_at mo_first mo_kept mo_isKept mo_keptAt mo_isWriting) [.ref mo_A, .int p1] (some (.int r)) := by
  refine ro_in_i (own := RX9) (by decide +kernel) rfl (Nat.le_of_ble_eq_true rfl) ?_
  intro p e s m args below meth c ls Q E hQ hP hl
  obtain ⟨hx, hb, hml, hown, hts, hK, hN, hAO⟩ := id E
  have hl : lv_has ls 2 [(0, .ref mo_A), (1, .int p1)] := hl
  unfold f_X9_open at hf
  refine lv_iload_n (pc := 0) hx hb dX9_open_0 rfl (lv_at hl 1 rfl) ?_
  refine lv_i2l (pc := 1) (v := (Int32.toInt64 p1)) hx hb dX9_open_1 rfl ?_
  refine lv_lconst (pc := 2) (v := (0 : Int64)) hx hb dX9_open_2 (by decide) ?_
  refine lv_ldc2 (pc := 3) hx hb hown (hts _ tw_915) dX9_open_3 ?_
  obtain ⟨v1, hv6, hf⟩ := bd_e hf
  refine ro_Si (pc := 6) (As := [.long (Int32.toInt64 p1), .long (0 : Int64), .long (999 : Int64)]) (rest := []) E (c_X9_in l D cI cJ cZ cS (Int32.toInt64 p1) (0 : Int64) (999 : Int64) v1 hv6) F_X9_in tw_793 tw_794  va_P_nil ⟨by decide, by decide⟩ rfl hl.1 (Nat.le_of_ble_eq_true rfl) ⟨by decide, by decide⟩ rfl dX9_open_6 ?_
  refine r_if_eq (pc := 9) (tgt := 20) hx hb dX9_open_9 (by decide) hf (fun hf => ?_) (fun hf => ?_)
  · refine lv_bipush (pc := 20) (v := (-2 : Int32)) hx hb dX9_open_20 (by decide) ?_
    exact hQ _ _ _ dX9_open_22 hf
  · refine lv_aload_n (pc := 12) hx hb dX9_open_12 rfl (lv_at hl 0 rfl) ?_
    refine lv_iload_n (pc := 13) hx hb dX9_open_13 rfl (lv_at hl 1 rfl) ?_
    obtain ⟨v2, hv14, hf⟩ := bd_e hf
    refine ro_Vi (pc := 14) (As := [.int p1]) (rest := []) E (c_X9_openAt l D cI cJ cZ cS N mo_A mo_looks_A mo_period_A mo_shut_A mo_phase_A mo_quarters_A mo_tall_A mo_pairs_A mo_pad_A mo_cuts_A mo_at_A mo_first_A mo_kept_A mo_isKept_A mo_people mo_shots mo_looks mo_bride mo_hands mo_period mo_shut mo_phase mo_flash mo_quarters mo_tired mo_rows mo_columns mo_rise mo_tall mo_pairs mo_pad mo_padMany mo_cuts mo_at mo_first mo_kept mo_isKept mo_keptAt mo_isWriting p1 v2 hv14) F_X9_openAt rfl rfl tw_920 tw_922 tp_35 hP ⟨by decide, by decide⟩ rfl hl.1 (Nat.le_of_ble_eq_true rfl) ⟨by decide, by decide⟩ rfl dX9_open_14 ?_
    refine lv_goto (pc := 17) (tgt := 22) hx hb dX9_open_17 (by decide) ?_
    exact hQ _ _ _ dX9_open_22 hf
theorem F_X9_fire : CalF yX9_fire cX9_fire 9 (some .int) 3 := ⟨tw_927, tw_10, by decide +kernel⟩
set_option maxRecDepth 100000 in
set_option maxHeartbeats 4000000 in
theorem c_X9_fire (l : Launch) (D : va_G) (cI cJ cZ cS : ClassId) (N : Nat) (mo_A mo_looks_A mo_period_A mo_shut_A mo_phase_A mo_quarters_A mo_tall_A mo_pairs_A mo_pad_A mo_cuts_A mo_at_A mo_first_A mo_kept_A mo_isKept_A : Nat) (mo_people : Int32) (mo_shots : Int32) (mo_looks : Nat → Int32) (mo_bride : Int32) (mo_hands : Int32) (mo_period : Nat → Int32) (mo_shut : Nat → Int32) (mo_phase : Nat → Int32) (mo_flash : Int32) (mo_quarters : Nat → Int32) (mo_tired : Int32) (mo_rows : Int32) (mo_columns : Int32) (mo_rise : Int32) (mo_tall : Nat → Int32) (mo_pairs : Nat → Int32) (mo_pad : Nat → Int32) (mo_padMany : Int32) (mo_cuts : Nat → Int32) (mo_at : Nat → Int32) (mo_first : Nat → Int32) (mo_kept : Nat → Int32) (mo_isKept : Nat → Int32) (mo_keptAt : Int32) (mo_isWriting : Int32) (p1 : Int32) (p2 : Int32) (p3 : Int32) (r : Int32) (hf : f_X9_fire N mo_people mo_period mo_shut mo_phase mo_flash p1 p2 p3 = some r) : RoC l D cI cJ cZ cS yX9_fire cX9_fire 9 (some .int) 2 50 (w_X9 cI cJ cZ cS mo_A mo_looks_A mo_period_A mo_shut_A mo_phase_A mo_quarters_A mo_tall_A mo_pairs_A mo_pad_A mo_cuts_A mo_at_A mo_first_A mo_kept_A mo_isKept_A mo_people mo_shots mo_looks mo_bride mo_hands mo_period mo_shut mo_phase mo_flash mo_quarters mo_tired mo_rows mo_columns mo_rise mo_tall mo_pairs mo_pad mo_padMany mo_cuts mo_at mo_first mo_kept mo_isKept mo_keptAt mo_isWriting) [.ref mo_A, .int p1, .int p2, .int p3] (some (.int r)) := by
  refine ro_in_i (own := RX9) (by decide +kernel) rfl (Nat.le_of_ble_eq_true rfl) ?_
  intro p e s m args below meth c ls Q E hQ hP hl
  obtain ⟨hx, hb, hml, hown, hts, hK, hN, hAO⟩ := id E
  have hl : lv_has ls 9 [(0, .ref mo_A), (1, .int p1), (2, .int p2), (3, .int p3)] := hl
  unfold f_X9_fire at hf
  refine lv_iload_n (pc := 0) hx hb dX9_fire_0 rfl (lv_at hl 1 rfl) ?_
  refine lv_i2l (pc := 1) (v := (Int32.toInt64 p1)) hx hb dX9_fire_1 rfl ?_
  refine lv_lconst (pc := 2) (v := (0 : Int64)) hx hb dX9_fire_2 (by decide) ?_
  refine lv_ldc2 (pc := 3) hx hb hown (hts _ tw_915) dX9_fire_3 ?_
  obtain ⟨v1, hv6, hf⟩ := bd_e hf
  refine ro_Si (pc := 6) (As := [.long (Int32.toInt64 p1), .long (0 : Int64), .long (999 : Int64)]) (rest := []) E (c_X9_in l D cI cJ cZ cS (Int32.toInt64 p1) (0 : Int64) (999 : Int64) v1 hv6) F_X9_in tw_793 tw_794  va_P_nil ⟨by decide, by decide⟩ rfl hl.1 (Nat.le_of_ble_eq_true rfl) ⟨by decide, by decide⟩ rfl dX9_fire_6 ?_
  obtain ⟨k2, hk2, hf⟩ := lc0_e hf
  have K2 : ∀  (ls : Array Slot), k2 = some r → lv_has ls 9 [] → W p l e (roR 2 50) s m args below meth c s.heap [] 0 0 Q (F0 m 37 ls []) := by
    intro  ls hf hl
    rw [hk2] at hf
    refine lv_bipush (pc := 37) (v := (-2 : Int32)) hx hb dX9_fire_37 (by decide) ?_
    exact hQ _ _ _ dX9_fire_39 hf
  refine r_if_eq (pc := 9) (tgt := 37) hx hb dX9_fire_9 (by decide) hf (fun hf => ?_) (fun hf => ?_)
  · exact K2  _ hf (lv_sub hl [] rfl)
  · refine lv_iload_n (pc := 12) hx hb dX9_fire_12 rfl (lv_at hl 2 rfl) ?_
    refine lv_i2l (pc := 13) (v := (Int32.toInt64 p2)) hx hb dX9_fire_13 rfl ?_
    refine lv_iload_n (pc := 14) hx hb dX9_fire_14 rfl (lv_at hl 1 rfl) ?_
    refine lv_i2l (pc := 15) (v := (Int32.toInt64 p1)) hx hb dX9_fire_15 rfl ?_
    refine lv_ldc2 (pc := 16) hx hb hown (hts _ tw_915) dX9_fire_16 ?_
    obtain ⟨v3, hv19, hf⟩ := bd_e hf
    refine ro_Si (pc := 19) (As := [.long (Int32.toInt64 p2), .long (Int32.toInt64 p1), .long (999 : Int64)]) (rest := []) E (c_X9_in l D cI cJ cZ cS (Int32.toInt64 p2) (Int32.toInt64 p1) (999 : Int64) v3 hv19) F_X9_in tw_793 tw_794  va_P_nil ⟨by decide, by decide⟩ rfl hl.1 (Nat.le_of_ble_eq_true rfl) ⟨by decide, by decide⟩ rfl dX9_fire_19 ?_
    refine r_if_eq (pc := 22) (tgt := 37) hx hb dX9_fire_22 (by decide) hf (fun hf => ?_) (fun hf => ?_)
    · exact K2  _ hf (lv_sub hl [] rfl)
    · refine lv_iload_n (pc := 25) hx hb dX9_fire_25 rfl (lv_at hl 3 rfl) ?_
      refine lv_i2l (pc := 26) (v := (Int32.toInt64 p3)) hx hb dX9_fire_26 rfl ?_
      refine lv_lconst (pc := 27) (v := (0 : Int64)) hx hb dX9_fire_27 (by decide) ?_
      refine lv_ldc2 (pc := 28) hx hb hown (hts _ tw_928) dX9_fire_28 ?_
      obtain ⟨v4, hv31, hf⟩ := bd_e hf
      refine ro_Si (pc := 31) (As := [.long (Int32.toInt64 p3), .long (0 : Int64), .long (2 : Int64)]) (rest := []) E (c_X9_in l D cI cJ cZ cS (Int32.toInt64 p3) (0 : Int64) (2 : Int64) v4 hv31) F_X9_in tw_793 tw_794  va_P_nil ⟨by decide, by decide⟩ rfl hl.1 (Nat.le_of_ble_eq_true rfl) ⟨by decide, by decide⟩ rfl dX9_fire_31 ?_
      refine r_if_ne (pc := 34) (tgt := 40) hx hb dX9_fire_34 (by decide) hf (fun hf => ?_) (fun hf => ?_)
      · refine lv_bipush (pc := 40) (v := (-6 : Int32)) hx hb dX9_fire_40 (by decide) ?_
        refine lv_istore (pc := 42) (lv' := [(4, .int (-6 : Int32)), (0, .ref mo_A), (1, .int p1), (2, .int p2), (3, .int p3)]) hx hb dX9_fire_42 hl (by decide) rfl (fun ls hl => ?_)
        refine lv_iconst (pc := 44) (v := (-1 : Int32)) hx hb dX9_fire_44 (by decide) ?_
        refine lv_istore (pc := 45) (lv' := [(5, .int (-1 : Int32)), (4, .int (-6 : Int32)), (0, .ref mo_A), (1, .int p1), (2, .int p2), (3, .int p3)]) hx hb dX9_fire_45 hl (by decide) rfl (fun ls hl => ?_)
        refine lv_iconst (pc := 47) (v := (0 : Int32)) hx hb dX9_fire_47 (by decide) ?_
        refine lv_istore (pc := 48) (lv' := [(6, .int (0 : Int32)), (5, .int (-1 : Int32)), (4, .int (-6 : Int32)), (0, .ref mo_A), (1, .int p1), (2, .int p2), (3, .int p3)]) hx hb dX9_fire_48 hl (by decide) rfl (fun ls hl => ?_)
        refine lv_iload_n (pc := 50) hx hb dX9_fire_50 rfl (lv_at hl 4 rfl) ?_
        refine lv_istore (pc := 51) (lv' := [(7, .int p1), (6, .int (0 : Int32)), (5, .int (-1 : Int32)), (4, .int (-6 : Int32)), (0, .ref mo_A), (1, .int p1), (2, .int p2), (3, .int p3)]) hx hb dX9_fire_51 hl (by decide) rfl (fun ls hl => ?_)
        obtain ⟨k10, hk10, hf⟩ := lc3_e hf
        have K10 : ∀ (z11 : Int32) (z12 : Int32) (z13 : Int32) (ls : Array Slot), k10 z11 z12 z13 = some r → lv_has ls 9 [(3, .int p3), (4, .int z11), (5, .int z12), (6, .int z13)] → W p l e (roR 2 50) s m args below meth c s.heap [] 0 0 Q (F0 m 127 ls []) := by
          intro z11 z12 z13 ls hf hl
          rw [hk10] at hf
          refine lv_iload_n (pc := 127) hx hb dX9_fire_127 rfl (lv_at hl 0 rfl) ?_
          refine r_if_ne (pc := 128) (tgt := 136) hx hb dX9_fire_128 (by decide) hf (fun hf => ?_) (fun hf => ?_)
          · refine lv_iload_n (pc := 136) hx hb dX9_fire_136 rfl (lv_at hl 0 rfl) ?_
            refine lv_iconst (pc := 137) (v := (1 : Int32)) hx hb dX9_fire_137 (by decide) ?_
            refine r_ic_ne (pc := 138) (tgt := 146) hx hb dX9_fire_138 (by decide) hf (fun hf => ?_) (fun hf => ?_)
            · refine lv_iload (pc := 146) hx hb dX9_fire_146 (lv_at hl 3 rfl) ?_
              exact hQ _ _ _ dX9_fire_148 hf
            · refine lv_iload (pc := 141) hx hb dX9_fire_141 (lv_at hl 2 rfl) ?_
              refine lv_goto (pc := 143) (tgt := 148) hx hb dX9_fire_143 (by decide) ?_
              exact hQ _ _ _ dX9_fire_148 hf
          · refine lv_iload (pc := 131) hx hb dX9_fire_131 (lv_at hl 1 rfl) ?_
            refine lv_goto (pc := 133) (tgt := 148) hx hb dX9_fire_133 (by decide) ?_
            exact hQ _ _ _ dX9_fire_148 hf
        have L53 : ∀ (n : Nat), ∀ (y5 : Int32) (y6 : Int32) (y7 : Int32) (y8 : Int32) (ls : Array Slot), f_X9_fire_L53 mo_people mo_period mo_shut mo_phase mo_flash p2 N k10 n y5 y6 y7 y8 = some r → lv_has ls 9 [(0, .ref mo_A), (2, .int p2), (3, .int p3), (4, .int y5), (5, .int y6), (6, .int y7), (7, .int y8)] → W p l e (roR 2 50) s m args below meth c s.heap [] 0 0 Q (F0 m 53 ls []) := by
          intro n
          induction n with
          | zero =>
            intro y5 y6 y7 y8 ls hf
            rw [f_X9_fire_L53] at hf
            cases hf
          | succ n ih =>
            intro y5 y6 y7 y8 ls hf hl
            rw [f_X9_fire_L53] at hf
            refine lv_iload (pc := 53) hx hb dX9_fire_53 (lv_at hl 6 rfl) ?_
            refine lv_iload_n (pc := 55) hx hb dX9_fire_55 rfl (lv_at hl 1 rfl) ?_
            refine r_ic_gt (pc := 56) (tgt := 127) hx hb dX9_fire_56 (by decide) hf (fun hf => ?_) (fun hf => ?_)
            · exact K10 _ _ _ _ hf (lv_sub hl [2, 3, 4, 5] rfl)
            · refine lv_aload_n (pc := 59) hx hb dX9_fire_59 rfl (lv_at hl 0 rfl) ?_
              refine lv_iload (pc := 60) hx hb dX9_fire_60 (lv_at hl 6 rfl) ?_
              obtain ⟨v14, hv62, hf⟩ := bd_e hf
              refine ro_Vi (pc := 62) (As := [.int y8]) (rest := []) E (c_X9_openAt l D cI cJ cZ cS N mo_A mo_looks_A mo_period_A mo_shut_A mo_phase_A mo_quarters_A mo_tall_A mo_pairs_A mo_pad_A mo_cuts_A mo_at_A mo_first_A mo_kept_A mo_isKept_A mo_people mo_shots mo_looks mo_bride mo_hands mo_period mo_shut mo_phase mo_flash mo_quarters mo_tired mo_rows mo_columns mo_rise mo_tall mo_pairs mo_pad mo_padMany mo_cuts mo_at mo_first mo_kept mo_isKept mo_keptAt mo_isWriting y8 v14 hv62) F_X9_openAt rfl rfl tw_920 tw_922 tp_35 hP ⟨by decide, by decide⟩ rfl hl.1 (Nat.le_of_ble_eq_true rfl) ⟨by decide, by decide⟩ rfl dX9_fire_62 ?_
              obtain ⟨v15, hv65, hf⟩ := bd_e hf
              refine ro_Si (pc := 65) (As := [.int v14]) (rest := []) E (c_X9_ones l D cI cJ cZ cS N v14 v15 hv65) F_X9_ones tw_865 tw_866  va_P_nil ⟨by decide, by decide⟩ rfl hl.1 (Nat.le_of_ble_eq_true rfl) ⟨by decide, by decide⟩ rfl dX9_fire_65 ?_
              refine lv_istore (pc := 68) (lv' := [(8, .int v15), (0, .ref mo_A), (2, .int p2), (3, .int p3), (4, .int y5), (5, .int y6), (6, .int y7), (7, .int y8)]) hx hb dX9_fire_68 hl (by decide) rfl (fun ls hl => ?_)
              refine lv_iload (pc := 70) hx hb dX9_fire_70 (lv_at hl 0 rfl) ?_
              refine lv_iload (pc := 72) hx hb dX9_fire_72 (lv_at hl 5 rfl) ?_
              obtain ⟨k16, hk16, hf⟩ := lc1_e hf
              have K16 : ∀ (x17 : Int32) (ls : Array Slot), k16 x17 = some r → lv_has ls 9 [(0, .ref mo_A), (2, .int p2), (3, .int p3), (5, .int y6), (6, .int y7), (7, .int y8), (8, .int v15)] → W p l e (roR 2 50) s m args below meth c s.heap [] 0 0 Q (F0 m 84 ls [.int x17]) := by
                intro x17 ls hf hl
                rw [hk16] at hf
                refine lv_istore (pc := 84) (lv' := [(4, .int x17), (0, .ref mo_A), (2, .int p2), (3, .int p3), (5, .int y6), (6, .int y7), (7, .int y8), (8, .int v15)]) hx hb dX9_fire_84 hl (by decide) rfl (fun ls hl => ?_)
                refine lv_iload (pc := 86) hx hb dX9_fire_86 (lv_at hl 7 rfl) ?_
                refine lv_iload (pc := 88) hx hb dX9_fire_88 (lv_at hl 4 rfl) ?_
                obtain ⟨k18, hk18, hf⟩ := lc1_e hf
                have K18 : ∀ (x19 : Int32) (ls : Array Slot), k18 x19 = some r → lv_has ls 9 [(0, .ref mo_A), (2, .int p2), (3, .int p3), (4, .int x17), (6, .int y7), (7, .int y8), (8, .int v15)] → W p l e (roR 2 50) s m args below meth c s.heap [] 0 0 Q (F0 m 100 ls [.int x19]) := by
                  intro x19 ls hf hl
                  rw [hk18] at hf
                  refine lv_istore (pc := 100) (lv' := [(5, .int x19), (0, .ref mo_A), (2, .int p2), (3, .int p3), (4, .int x17), (6, .int y7), (7, .int y8), (8, .int v15)]) hx hb dX9_fire_100 hl (by decide) rfl (fun ls hl => ?_)
                  refine lv_iload (pc := 102) hx hb dX9_fire_102 (lv_at hl 5 rfl) ?_
                  refine lv_iload (pc := 104) hx hb dX9_fire_104 (lv_at hl 7 rfl) ?_
                  refine lv_aload_n (pc := 106) hx hb dX9_fire_106 rfl (lv_at hl 1 rfl) ?_
                  refine va_get (pc := 107) (D := D) (ci := 9) (v := .int mo_people) (C := RX9) (T := TX9) (N := 25) hx hb hts inG9 hown hK hP 0 rfl rfl 0 (by decide) (hts _ tw_711) (fun _ h9 => h9) rfl dX9_fire_107 ?_
                  obtain ⟨k20, hk20, hf⟩ := lc1_e hf
                  have K20 : ∀ (x21 : Int32) (ls : Array Slot), k20 x21 = some r → lv_has ls 9 [(0, .ref mo_A), (2, .int p2), (3, .int p3), (4, .int x17), (5, .int x19), (7, .int y8)] → W p l e (roR 2 50) s m args below meth c s.heap [] 0 0 Q (F0 m 118 ls [.int x21, .int y7]) := by
                    intro x21 ls hf hl
                    rw [hk20] at hf
                    refine lv_iadd (pc := 118) hx hb dX9_fire_118 ?_
                    refine lv_istore (pc := 119) (lv' := [(6, .int (y7 + x21)), (0, .ref mo_A), (2, .int p2), (3, .int p3), (4, .int x17), (5, .int x19), (7, .int y8)]) hx hb dX9_fire_119 hl (by decide) rfl (fun ls hl => ?_)
                    refine lv_iinc (pc := 121) (v := (y8 + (1 : Int32))) (lv' := [(7, .int (y8 + (1 : Int32))), (6, .int (y7 + x21)), (0, .ref mo_A), (2, .int p2), (3, .int p3), (4, .int x17), (5, .int x19)]) hx hb dX9_fire_121 hl (k := 6) rfl (by rfl) (by decide) rfl (fun ls hl => ?_)
                    refine lv_goto (pc := 124) (tgt := 53) hx hb dX9_fire_124 (by decide) ?_
                    exact ih _ _ _ _ _ hf (lv_sub hl [2, 3, 4, 5, 6, 1, 0] rfl)
                  refine r_ic_ne (pc := 110) (tgt := 117) hx hb dX9_fire_110 (by decide) hf (fun hf => ?_) (fun hf => ?_)
                  · refine lv_iconst (pc := 117) (v := (0 : Int32)) hx hb dX9_fire_117 (by decide) ?_
                    exact K20 _ _ hf (lv_sub hl [1, 2, 3, 4, 0, 6] rfl)
                  · refine lv_iconst (pc := 113) (v := (1 : Int32)) hx hb dX9_fire_113 (by decide) ?_
                    refine lv_goto (pc := 114) (tgt := 118) hx hb dX9_fire_114 (by decide) ?_
                    exact K20 _ _ hf (lv_sub hl [1, 2, 3, 4, 0, 6] rfl)
                refine r_ic_le (pc := 90) (tgt := 98) hx hb dX9_fire_90 (by decide) hf (fun hf => ?_) (fun hf => ?_)
                · refine lv_iload (pc := 98) hx hb dX9_fire_98 (lv_at hl 4 rfl) ?_
                  exact K18 _ _ hf (lv_sub hl [1, 2, 3, 0, 5, 6, 7] rfl)
                · refine lv_iload (pc := 93) hx hb dX9_fire_93 (lv_at hl 7 rfl) ?_
                  refine lv_goto (pc := 95) (tgt := 100) hx hb dX9_fire_95 (by decide) ?_
                  exact K18 _ _ hf (lv_sub hl [1, 2, 3, 0, 5, 6, 7] rfl)
              refine r_ic_le (pc := 74) (tgt := 82) hx hb dX9_fire_74 (by decide) hf (fun hf => ?_) (fun hf => ?_)
              · refine lv_iload (pc := 82) hx hb dX9_fire_82 (lv_at hl 4 rfl) ?_
                exact K16 _ _ hf (lv_sub hl [1, 2, 3, 5, 6, 7, 0] rfl)
              · refine lv_iload (pc := 77) hx hb dX9_fire_77 (lv_at hl 7 rfl) ?_
                refine lv_goto (pc := 79) (tgt := 84) hx hb dX9_fire_79 (by decide) ?_
                exact K16 _ _ hf (lv_sub hl [1, 2, 3, 5, 6, 7, 0] rfl)
        exact L53 N _ _ _ _ _ hf (lv_sub hl [4, 6, 7, 3, 2, 1, 0] rfl)
      · exact K2  _ hf (lv_sub hl [] rfl)
theorem F_X9_bad : CalF yX9_bad cX9_bad 4 (some .int) 2 := ⟨tw_932, tw_10, by decide +kernel⟩
set_option maxRecDepth 100000 in
set_option maxHeartbeats 4000000 in
theorem c_X9_bad (l : Launch) (D : va_G) (cI cJ cZ cS : ClassId) (mo_A mo_looks_A mo_period_A mo_shut_A mo_phase_A mo_quarters_A mo_tall_A mo_pairs_A mo_pad_A mo_cuts_A mo_at_A mo_first_A mo_kept_A mo_isKept_A : Nat) (mo_people : Int32) (mo_shots : Int32) (mo_looks : Nat → Int32) (mo_bride : Int32) (mo_hands : Int32) (mo_period : Nat → Int32) (mo_shut : Nat → Int32) (mo_phase : Nat → Int32) (mo_flash : Int32) (mo_quarters : Nat → Int32) (mo_tired : Int32) (mo_rows : Int32) (mo_columns : Int32) (mo_rise : Int32) (mo_tall : Nat → Int32) (mo_pairs : Nat → Int32) (mo_pad : Nat → Int32) (mo_padMany : Int32) (mo_cuts : Nat → Int32) (mo_at : Nat → Int32) (mo_first : Nat → Int32) (mo_kept : Nat → Int32) (mo_isKept : Nat → Int32) (mo_keptAt : Int32) (mo_isWriting : Int32) (p1 : Int32) (p2 : Int32) (sz : Nat) (r : Int32) (r_mo_tired : Int32) (r_mo_quarters : Nat → Int32) (hf : f_X9_bad mo_people mo_quarters mo_tired p1 p2 = some (r, r_mo_tired, r_mo_quarters)) : RwC l D cI cJ cZ cS yX9_bad cX9_bad 4 (some .int) 2 46 (w_X9 cI cJ cZ cS mo_A mo_looks_A mo_period_A mo_shut_A mo_phase_A mo_quarters_A mo_tall_A mo_pairs_A mo_pad_A mo_cuts_A mo_at_A mo_first_A mo_kept_A mo_isKept_A mo_people mo_shots mo_looks mo_bride mo_hands mo_period mo_shut mo_phase mo_flash mo_quarters mo_tired mo_rows mo_columns mo_rise mo_tall mo_pairs mo_pad mo_padMany mo_cuts mo_at mo_first mo_kept mo_isKept mo_keptAt mo_isWriting) sz [.ref mo_A, .int p1, .int p2] (some (.int r)) (w_X9 cI cJ cZ cS mo_A mo_looks_A mo_period_A mo_shut_A mo_phase_A mo_quarters_A mo_tall_A mo_pairs_A mo_pad_A mo_cuts_A mo_at_A mo_first_A mo_kept_A mo_isKept_A mo_people mo_shots mo_looks mo_bride mo_hands mo_period mo_shut mo_phase mo_flash r_mo_quarters r_mo_tired mo_rows mo_columns mo_rise mo_tall mo_pairs mo_pad mo_padMany mo_cuts mo_at mo_first mo_kept mo_isKept mo_keptAt mo_isWriting) := by
  refine rw_in_i (own := RX9) (by decide +kernel) rfl (Nat.le_of_ble_eq_true rfl) ?_
  intro p e s m args below meth c ls Q A E hA hQ hP hD hS hl
  obtain ⟨hx, hb, hml, hown, hts, hK, hN, hAO⟩ := id E
  have hl : lv_has ls 4 [(0, .ref mo_A), (1, .int p1), (2, .int p2)] := hl
  unfold f_X9_bad at hf
  obtain ⟨H, hH⟩ : ∃ H, H = s.heap := ⟨_, rfl⟩
  obtain ⟨locs, hlocs⟩ : ∃ L : List Loc, L = [] := ⟨_, rfl⟩
  rw [show W p l e (roR 2 46) s m args below meth c s.heap [] 0 0 Q (F0 m 0 ls []) = W p l e (roR 2 46) s m args below meth c H locs 0 0 Q (F0 m 0 ls []) by rw [hH, hlocs]]
  replace hS : va_S A s.heap H locs := by rw [hH, hlocs]; exact hS
  replace hP : va_P D vwCl (w_X9 cI cJ cZ cS mo_A mo_looks_A mo_period_A mo_shut_A mo_phase_A mo_quarters_A mo_tall_A mo_pairs_A mo_pad_A mo_cuts_A mo_at_A mo_first_A mo_kept_A mo_isKept_A mo_people mo_shots mo_looks mo_bride mo_hands mo_period mo_shut mo_phase mo_flash mo_quarters mo_tired mo_rows mo_columns mo_rise mo_tall mo_pairs mo_pad mo_padMany mo_cuts mo_at mo_first mo_kept mo_isKept mo_keptAt mo_isWriting) H := by rw [hH]; exact hP
  clear hH hlocs
  refine lv_iload_n (pc := 0) hx hb dX9_bad_0 rfl (lv_at hl 1 rfl) ?_
  refine lv_iconst (pc := 1) (v := (-1 : Int32)) hx hb dX9_bad_1 (by decide) ?_
  obtain ⟨k1, hk1, hf⟩ := lc0_e hf
  have K1 : ∀  (H : Heap) (locs : List Loc) (ls : Array Slot), k1 = some (r, r_mo_tired, r_mo_quarters) → va_P D vwCl (w_X9 cI cJ cZ cS mo_A mo_looks_A mo_period_A mo_shut_A mo_phase_A mo_quarters_A mo_tall_A mo_pairs_A mo_pad_A mo_cuts_A mo_at_A mo_first_A mo_kept_A mo_isKept_A mo_people mo_shots mo_looks mo_bride mo_hands mo_period mo_shut mo_phase mo_flash mo_quarters mo_tired mo_rows mo_columns mo_rise mo_tall mo_pairs mo_pad mo_padMany mo_cuts mo_at mo_first mo_kept mo_isKept mo_keptAt mo_isWriting) H → va_D A (w_X9 cI cJ cZ cS mo_A mo_looks_A mo_period_A mo_shut_A mo_phase_A mo_quarters_A mo_tall_A mo_pairs_A mo_pad_A mo_cuts_A mo_at_A mo_first_A mo_kept_A mo_isKept_A mo_people mo_shots mo_looks mo_bride mo_hands mo_period mo_shut mo_phase mo_flash mo_quarters mo_tired mo_rows mo_columns mo_rise mo_tall mo_pairs mo_pad mo_padMany mo_cuts mo_at mo_first mo_kept mo_isKept mo_keptAt mo_isWriting) → va_S A s.heap H locs → lv_has ls 4 [(0, .ref mo_A), (1, .int p1), (2, .int p2)] → W p l e (roR 2 46) s m args below meth c H locs 0 0 Q (F0 m 15 ls []) := by
    intro  H locs ls hf hP hD hS hl
    rw [hk1] at hf
    refine lv_iload_n (pc := 15) hx hb dX9_bad_15 rfl (lv_at hl 2 rfl) ?_
    refine lv_i2l (pc := 16) (v := (Int32.toInt64 p2)) hx hb dX9_bad_16 rfl ?_
    refine lv_lconst (pc := 17) (v := (0 : Int64)) hx hb dX9_bad_17 (by decide) ?_
    refine lv_iload_n (pc := 18) hx hb dX9_bad_18 rfl (lv_at hl 1 rfl) ?_
    refine lv_iconst (pc := 19) (v := (-1 : Int32)) hx hb dX9_bad_19 (by decide) ?_
    obtain ⟨k3, hk3, hf⟩ := lc1_e hf
    have K3 : ∀ (x4 : Int64) (H : Heap) (locs : List Loc) (ls : Array Slot), k3 x4 = some (r, r_mo_tired, r_mo_quarters) → va_P D vwCl (w_X9 cI cJ cZ cS mo_A mo_looks_A mo_period_A mo_shut_A mo_phase_A mo_quarters_A mo_tall_A mo_pairs_A mo_pad_A mo_cuts_A mo_at_A mo_first_A mo_kept_A mo_isKept_A mo_people mo_shots mo_looks mo_bride mo_hands mo_period mo_shut mo_phase mo_flash mo_quarters mo_tired mo_rows mo_columns mo_rise mo_tall mo_pairs mo_pad mo_padMany mo_cuts mo_at mo_first mo_kept mo_isKept mo_keptAt mo_isWriting) H → va_D A (w_X9 cI cJ cZ cS mo_A mo_looks_A mo_period_A mo_shut_A mo_phase_A mo_quarters_A mo_tall_A mo_pairs_A mo_pad_A mo_cuts_A mo_at_A mo_first_A mo_kept_A mo_isKept_A mo_people mo_shots mo_looks mo_bride mo_hands mo_period mo_shut mo_phase mo_flash mo_quarters mo_tired mo_rows mo_columns mo_rise mo_tall mo_pairs mo_pad mo_padMany mo_cuts mo_at mo_first mo_kept mo_isKept mo_keptAt mo_isWriting) → va_S A s.heap H locs → lv_has ls 4 [(0, .ref mo_A), (1, .int p1), (2, .int p2)] → W p l e (roR 2 46) s m args below meth c H locs 0 0 Q (F0 m 32 ls [.long x4, .long (0 : Int64), .long (Int32.toInt64 p2)]) := by
      intro x4 H locs ls hf hP hD hS hl
      rw [hk3] at hf
      obtain ⟨v5, hv32, hf⟩ := bd_e hf
      refine ro_Si (pc := 32) (As := [.long (Int32.toInt64 p2), .long (0 : Int64), .long x4]) (rest := []) E (c_X9_in l D cI cJ cZ cS (Int32.toInt64 p2) (0 : Int64) x4 v5 hv32) F_X9_in tw_793 tw_794  va_P_nil ⟨by decide, by decide⟩ rfl hl.1 (Nat.le_of_ble_eq_true rfl) ⟨by decide, by decide⟩ rfl dX9_bad_32 ?_
      refine r_if_ne (pc := 35) (tgt := 41) hx hb dX9_bad_35 (by decide) hf (fun hf => ?_) (fun hf => ?_)
      · refine lv_iload_n (pc := 41) hx hb dX9_bad_41 rfl (lv_at hl 1 rfl) ?_
        refine lv_iconst (pc := 42) (v := (-1 : Int32)) hx hb dX9_bad_42 (by decide) ?_
        obtain ⟨k6, hk6, hf⟩ := lc1_e hf
        have K6 : ∀ (x8 : Int32) (H : Heap) (locs : List Loc) (ls : Array Slot), k6 x8 = some (r, r_mo_tired, r_mo_quarters) → va_P D vwCl (w_X9 cI cJ cZ cS mo_A mo_looks_A mo_period_A mo_shut_A mo_phase_A mo_quarters_A mo_tall_A mo_pairs_A mo_pad_A mo_cuts_A mo_at_A mo_first_A mo_kept_A mo_isKept_A mo_people mo_shots mo_looks mo_bride mo_hands mo_period mo_shut mo_phase mo_flash mo_quarters mo_tired mo_rows mo_columns mo_rise mo_tall mo_pairs mo_pad mo_padMany mo_cuts mo_at mo_first mo_kept mo_isKept mo_keptAt mo_isWriting) H → va_D A (w_X9 cI cJ cZ cS mo_A mo_looks_A mo_period_A mo_shut_A mo_phase_A mo_quarters_A mo_tall_A mo_pairs_A mo_pad_A mo_cuts_A mo_at_A mo_first_A mo_kept_A mo_isKept_A mo_people mo_shots mo_looks mo_bride mo_hands mo_period mo_shut mo_phase mo_flash mo_quarters mo_tired mo_rows mo_columns mo_rise mo_tall mo_pairs mo_pad mo_padMany mo_cuts mo_at mo_first mo_kept mo_isKept mo_keptAt mo_isWriting) → va_S A s.heap H locs → lv_has ls 4 [(0, .ref mo_A), (1, .int p1), (2, .int p2)] → W p l e (roR 2 46) s m args below meth c H locs 0 0 Q (F0 m 59 ls [.int x8]) := by
          intro x8 H locs ls hf hP hD hS hl
          rw [hk6] at hf
          refine lv_istore_n (pc := 59) (lv' := [(3, .int x8), (0, .ref mo_A), (1, .int p1), (2, .int p2)]) hx hb dX9_bad_59 rfl hl (by decide) rfl (fun ls hl => ?_)
          refine lv_iload_n (pc := 60) hx hb dX9_bad_60 rfl (lv_at hl 2 rfl) ?_
          refine lv_iconst (pc := 61) (v := (-1 : Int32)) hx hb dX9_bad_61 (by decide) ?_
          refine r_ic_ne (pc := 62) (tgt := 73) hx hb dX9_bad_62 (by decide) hf (fun hf => ?_) (fun hf => ?_)
          · refine lv_aload_n (pc := 73) hx hb dX9_bad_73 rfl (lv_at hl 1 rfl) ?_
            refine va_get (pc := 74) (D := D) (ci := 9) (v := .ref mo_quarters_A) (C := RX9) (T := TX9) (N := 25) hx hb hts inG9 hown hK hP 0 rfl rfl 9 (by decide) (hts _ tw_720) (fun _ h9 => h9) rfl dX9_bad_74 ?_
            refine lv_iload_n (pc := 77) hx hb dX9_bad_77 rfl (lv_at hl 2 rfl) ?_
            refine lv_iload_n (pc := 78) hx hb dX9_bad_78 rfl (lv_at hl 3 rfl) ?_
            refine r_iast (pc := 79) hx hb hK hP hD hS 5 0 rfl rfl hf dX9_bad_79 (fun mo_quarters_9 H locs hf hP hD hS => ?_)
            have hP : va_P D vwCl (w_X9 cI cJ cZ cS mo_A mo_looks_A mo_period_A mo_shut_A mo_phase_A mo_quarters_A mo_tall_A mo_pairs_A mo_pad_A mo_cuts_A mo_at_A mo_first_A mo_kept_A mo_isKept_A mo_people mo_shots mo_looks mo_bride mo_hands mo_period mo_shut mo_phase mo_flash mo_quarters_9 mo_tired mo_rows mo_columns mo_rise mo_tall mo_pairs mo_pad mo_padMany mo_cuts mo_at mo_first mo_kept mo_isKept mo_keptAt mo_isWriting) H := hP
            have hD : va_D A (w_X9 cI cJ cZ cS mo_A mo_looks_A mo_period_A mo_shut_A mo_phase_A mo_quarters_A mo_tall_A mo_pairs_A mo_pad_A mo_cuts_A mo_at_A mo_first_A mo_kept_A mo_isKept_A mo_people mo_shots mo_looks mo_bride mo_hands mo_period mo_shut mo_phase mo_flash mo_quarters_9 mo_tired mo_rows mo_columns mo_rise mo_tall mo_pairs mo_pad mo_padMany mo_cuts mo_at mo_first mo_kept mo_isKept mo_keptAt mo_isWriting) := hD
            refine lv_iload_n (pc := 80) hx hb dX9_bad_80 rfl (lv_at hl 0 rfl) ?_
            cases hf
            exact hQ _ _ _ _ _ dX9_bad_81 rfl hP hD hS
          · refine lv_aload_n (pc := 65) hx hb dX9_bad_65 rfl (lv_at hl 1 rfl) ?_
            refine lv_iload_n (pc := 66) hx hb dX9_bad_66 rfl (lv_at hl 3 rfl) ?_
            refine va_put (pc := 67) (D := D) (ci := 9) (v := .int p2) (ty := .int) (C := RX9) (T := TX9) (N := 25) hx hb hts inG9 tyX9 tyX9_ok nmX9 hown hK hP hD hS 0 rfl rfl 10 (by decide) (hts _ tw_721) (fun _ h9 => h9) rfl (by decide +kernel) rfl rfl (Nat.le_of_ble_eq_true rfl) dX9_bad_67 (fun H locs hP hD hS => ?_)
            have hP : va_P D vwCl (w_X9 cI cJ cZ cS mo_A mo_looks_A mo_period_A mo_shut_A mo_phase_A mo_quarters_A mo_tall_A mo_pairs_A mo_pad_A mo_cuts_A mo_at_A mo_first_A mo_kept_A mo_isKept_A mo_people mo_shots mo_looks mo_bride mo_hands mo_period mo_shut mo_phase mo_flash mo_quarters p2 mo_rows mo_columns mo_rise mo_tall mo_pairs mo_pad mo_padMany mo_cuts mo_at mo_first mo_kept mo_isKept mo_keptAt mo_isWriting) H := hP
            have hD : va_D A (w_X9 cI cJ cZ cS mo_A mo_looks_A mo_period_A mo_shut_A mo_phase_A mo_quarters_A mo_tall_A mo_pairs_A mo_pad_A mo_cuts_A mo_at_A mo_first_A mo_kept_A mo_isKept_A mo_people mo_shots mo_looks mo_bride mo_hands mo_period mo_shut mo_phase mo_flash mo_quarters p2 mo_rows mo_columns mo_rise mo_tall mo_pairs mo_pad mo_padMany mo_cuts mo_at mo_first mo_kept mo_isKept mo_keptAt mo_isWriting) := hD
            refine lv_goto (pc := 70) (tgt := 80) hx hb dX9_bad_70 (by decide) ?_
            refine lv_iload_n (pc := 80) hx hb dX9_bad_80 rfl (lv_at hl 0 rfl) ?_
            cases hf
            exact hQ _ _ _ _ _ dX9_bad_81 rfl hP hD hS
        refine r_ic_ne (pc := 43) (tgt := 53) hx hb dX9_bad_43 (by decide) hf (fun hf => ?_) (fun hf => ?_)
        · refine lv_aload_n (pc := 53) hx hb dX9_bad_53 rfl (lv_at hl 0 rfl) ?_
          refine va_get (pc := 54) (D := D) (ci := 9) (v := .ref mo_quarters_A) (C := RX9) (T := TX9) (N := 25) hx hb hts inG9 hown hK hP 0 rfl rfl 9 (by decide) (hts _ tw_720) (fun _ h9 => h9) rfl dX9_bad_54 ?_
          refine lv_iload_n (pc := 57) hx hb dX9_bad_57 rfl (lv_at hl 1 rfl) ?_
          refine r_iald (pc := 58) hx hb hK hP 5 0 rfl rfl hf dX9_bad_58 (fun v7 hf => ?_)
          exact K6 _ _ _ _ hf hP hD hS hl
        · refine lv_aload_n (pc := 46) hx hb dX9_bad_46 rfl (lv_at hl 0 rfl) ?_
          refine va_get (pc := 47) (D := D) (ci := 9) (v := .int mo_tired) (C := RX9) (T := TX9) (N := 25) hx hb hts inG9 hown hK hP 0 rfl rfl 10 (by decide) (hts _ tw_721) (fun _ h9 => h9) rfl dX9_bad_47 ?_
          refine lv_goto (pc := 50) (tgt := 59) hx hb dX9_bad_50 (by decide) ?_
          exact K6 _ _ _ _ hf hP hD hS hl
      · refine lv_bipush (pc := 38) (v := (-2 : Int32)) hx hb dX9_bad_38 (by decide) ?_
        cases hf
        exact hQ _ _ _ _ _ dX9_bad_40 rfl hP hD hS
    refine r_ic_ne (pc := 20) (tgt := 29) hx hb dX9_bad_20 (by decide) hf (fun hf => ?_) (fun hf => ?_)
    · refine lv_ldc2 (pc := 29) hx hb hown (hts _ tw_934) dX9_bad_29 ?_
      exact K3 _ _ _ _ hf hP hD hS hl
    · refine lv_ldc2 (pc := 23) hx hb hown (hts _ tw_933) dX9_bad_23 ?_
      refine lv_goto (pc := 26) (tgt := 32) hx hb dX9_bad_26 (by decide) ?_
      exact K3 _ _ _ _ hf hP hD hS hl
  refine r_ic_eq (pc := 2) (tgt := 15) hx hb dX9_bad_2 (by decide) hf (fun hf => ?_) (fun hf => ?_)
  · exact K1  _ _ _ hf hP hD hS hl
  · refine lv_aload_n (pc := 5) hx hb dX9_bad_5 rfl (lv_at hl 0 rfl) ?_
    refine lv_iload_n (pc := 6) hx hb dX9_bad_6 rfl (lv_at hl 1 rfl) ?_
    obtain ⟨v2, hv7, hf⟩ := bd_e hf
    refine ro_Vi (pc := 7) (As := [.int p1]) (rest := []) E (c_X9_isPerson l D cI cJ cZ cS mo_A mo_looks_A mo_period_A mo_shut_A mo_phase_A mo_quarters_A mo_tall_A mo_pairs_A mo_pad_A mo_cuts_A mo_at_A mo_first_A mo_kept_A mo_isKept_A mo_people mo_shots mo_looks mo_bride mo_hands mo_period mo_shut mo_phase mo_flash mo_quarters mo_tired mo_rows mo_columns mo_rise mo_tall mo_pairs mo_pad mo_padMany mo_cuts mo_at mo_first mo_kept mo_isKept mo_keptAt mo_isWriting p1 v2 hv7) F_X9_isPerson rfl rfl tw_800 tw_802 tp_22 hP ⟨by decide, by decide⟩ rfl hl.1 (Nat.le_of_ble_eq_true rfl) ⟨by decide, by decide⟩ rfl dX9_bad_7 ?_
    refine r_if_ne (pc := 10) (tgt := 15) hx hb dX9_bad_10 (by decide) hf (fun hf => ?_) (fun hf => ?_)
    · exact K1  _ _ _ hf hP hD hS hl
    · refine lv_iconst (pc := 13) (v := (-1 : Int32)) hx hb dX9_bad_13 (by decide) ?_
      cases hf
      exact hQ _ _ _ _ _ dX9_bad_14 rfl hP hD hS
theorem F_X9_quartersOf : CalF yX9_quartersOf cX9_quartersOf 4 (some .int) 2 := ⟨tw_947, tw_10, by decide +kernel⟩
set_option maxRecDepth 100000 in
set_option maxHeartbeats 4000000 in
theorem c_X9_quartersOf (l : Launch) (D : va_G) (cI cJ cZ cS : ClassId) (mo_A mo_looks_A mo_period_A mo_shut_A mo_phase_A mo_quarters_A mo_tall_A mo_pairs_A mo_pad_A mo_cuts_A mo_at_A mo_first_A mo_kept_A mo_isKept_A : Nat) (mo_people : Int32) (mo_shots : Int32) (mo_looks : Nat → Int32) (mo_bride : Int32) (mo_hands : Int32) (mo_period : Nat → Int32) (mo_shut : Nat → Int32) (mo_phase : Nat → Int32) (mo_flash : Int32) (mo_quarters : Nat → Int32) (mo_tired : Int32) (mo_rows : Int32) (mo_columns : Int32) (mo_rise : Int32) (mo_tall : Nat → Int32) (mo_pairs : Nat → Int32) (mo_pad : Nat → Int32) (mo_padMany : Int32) (mo_cuts : Nat → Int32) (mo_at : Nat → Int32) (mo_first : Nat → Int32) (mo_kept : Nat → Int32) (mo_isKept : Nat → Int32) (mo_keptAt : Int32) (mo_isWriting : Int32) (p1 : Int32) (p2 : Int32) (r : Int32) (hf : f_X9_quartersOf mo_quarters mo_tired p1 p2 = some r) : RoC l D cI cJ cZ cS yX9_quartersOf cX9_quartersOf 4 (some .int) 0 0 (w_X9 cI cJ cZ cS mo_A mo_looks_A mo_period_A mo_shut_A mo_phase_A mo_quarters_A mo_tall_A mo_pairs_A mo_pad_A mo_cuts_A mo_at_A mo_first_A mo_kept_A mo_isKept_A mo_people mo_shots mo_looks mo_bride mo_hands mo_period mo_shut mo_phase mo_flash mo_quarters mo_tired mo_rows mo_columns mo_rise mo_tall mo_pairs mo_pad mo_padMany mo_cuts mo_at mo_first mo_kept mo_isKept mo_keptAt mo_isWriting) [.ref mo_A, .int p1, .int p2] (some (.int r)) := by
  refine ro_in_i (own := RX9) (by decide +kernel) rfl (Nat.le_of_ble_eq_true rfl) ?_
  intro p e s m args below meth c ls Q E hQ hP hl
  obtain ⟨hx, hb, hml, hown, hts, hK, hN, hAO⟩ := id E
  have hl : lv_has ls 4 [(0, .ref mo_A), (1, .int p1), (2, .int p2)] := hl
  unfold f_X9_quartersOf at hf
  refine lv_iload_n (pc := 0) hx hb dX9_quartersOf_0 rfl (lv_at hl 2 rfl) ?_
  refine lv_aload_n (pc := 1) hx hb dX9_quartersOf_1 rfl (lv_at hl 0 rfl) ?_
  refine va_get (pc := 2) (D := D) (ci := 9) (v := .int mo_tired) (C := RX9) (T := TX9) (N := 25) hx hb hts inG9 hown hK hP 0 rfl rfl 10 (by decide) (hts _ tw_721) (fun _ h9 => h9) rfl dX9_quartersOf_2 ?_
  obtain ⟨k1, hk1, hf⟩ := lc1_e hf
  have K1 : ∀ (x4 : Int32) (ls : Array Slot), k1 x4 = some r → lv_has ls 4 [] → W p l e (roR 0 0) s m args below meth c s.heap [] 0 0 Q (F0 m 25 ls [.int x4]) := by
    intro x4 ls hf hl
    rw [hk1] at hf
    refine lv_istore_n (pc := 25) (lv' := [(3, .int x4)]) hx hb dX9_quartersOf_25 rfl hl (by decide) rfl (fun ls hl => ?_)
    refine lv_iload_n (pc := 26) hx hb dX9_quartersOf_26 rfl (lv_at hl 0 rfl) ?_
    refine lv_iconst (pc := 27) (v := (4 : Int32)) hx hb dX9_quartersOf_27 (by decide) ?_
    refine r_ic_le (pc := 28) (tgt := 35) hx hb dX9_quartersOf_28 (by decide) hf (fun hf => ?_) (fun hf => ?_)
    · refine lv_iload_n (pc := 35) hx hb dX9_quartersOf_35 rfl (lv_at hl 0 rfl) ?_
      exact hQ _ _ _ dX9_quartersOf_36 hf
    · refine lv_iconst (pc := 31) (v := (4 : Int32)) hx hb dX9_quartersOf_31 (by decide) ?_
      refine lv_goto (pc := 32) (tgt := 36) hx hb dX9_quartersOf_32 (by decide) ?_
      exact hQ _ _ _ dX9_quartersOf_36 hf
  refine r_ic_lt (pc := 5) (tgt := 19) hx hb dX9_quartersOf_5 (by decide) hf (fun hf => ?_) (fun hf => ?_)
  · refine lv_aload_n (pc := 19) hx hb dX9_quartersOf_19 rfl (lv_at hl 0 rfl) ?_
    refine va_get (pc := 20) (D := D) (ci := 9) (v := .ref mo_quarters_A) (C := RX9) (T := TX9) (N := 25) hx hb hts inG9 hown hK hP 0 rfl rfl 9 (by decide) (hts _ tw_720) (fun _ h9 => h9) rfl dX9_quartersOf_20 ?_
    refine lv_iload_n (pc := 23) hx hb dX9_quartersOf_23 rfl (lv_at hl 1 rfl) ?_
    refine r_iald (pc := 24) hx hb hK hP 5 0 rfl rfl hf dX9_quartersOf_24 (fun v2 hf => ?_)
    exact K1 _ _ hf (lv_sub hl [] rfl)
  · refine lv_aload_n (pc := 8) hx hb dX9_quartersOf_8 rfl (lv_at hl 0 rfl) ?_
    refine va_get (pc := 9) (D := D) (ci := 9) (v := .ref mo_quarters_A) (C := RX9) (T := TX9) (N := 25) hx hb hts inG9 hown hK hP 0 rfl rfl 9 (by decide) (hts _ tw_720) (fun _ h9 => h9) rfl dX9_quartersOf_9 ?_
    refine lv_iload_n (pc := 12) hx hb dX9_quartersOf_12 rfl (lv_at hl 1 rfl) ?_
    refine r_iald (pc := 13) hx hb hK hP 5 0 rfl rfl hf dX9_quartersOf_13 (fun v3 hf => ?_)
    refine lv_iconst (pc := 14) (v := (1 : Int32)) hx hb dX9_quartersOf_14 (by decide) ?_
    refine lv_iadd (pc := 15) hx hb dX9_quartersOf_15 ?_
    refine lv_goto (pc := 16) (tgt := 25) hx hb dX9_quartersOf_16 (by decide) ?_
    exact K1 _ _ hf (lv_sub hl [] rfl)
theorem F_X9_allOpen : CalF yX9_allOpen cX9_allOpen 5 (some .long) 1 := ⟨tw_943, tw_10, by decide +kernel⟩
set_option maxRecDepth 100000 in
set_option maxHeartbeats 4000000 in
theorem c_X9_allOpen (l : Launch) (D : va_G) (cI cJ cZ cS : ClassId) (N : Nat) (mo_A mo_looks_A mo_period_A mo_shut_A mo_phase_A mo_quarters_A mo_tall_A mo_pairs_A mo_pad_A mo_cuts_A mo_at_A mo_first_A mo_kept_A mo_isKept_A : Nat) (mo_people : Int32) (mo_shots : Int32) (mo_looks : Nat → Int32) (mo_bride : Int32) (mo_hands : Int32) (mo_period : Nat → Int32) (mo_shut : Nat → Int32) (mo_phase : Nat → Int32) (mo_flash : Int32) (mo_quarters : Nat → Int32) (mo_tired : Int32) (mo_rows : Int32) (mo_columns : Int32) (mo_rise : Int32) (mo_tall : Nat → Int32) (mo_pairs : Nat → Int32) (mo_pad : Nat → Int32) (mo_padMany : Int32) (mo_cuts : Nat → Int32) (mo_at : Nat → Int32) (mo_first : Nat → Int32) (mo_kept : Nat → Int32) (mo_isKept : Nat → Int32) (mo_keptAt : Int32) (mo_isWriting : Int32) (p1 : Int32) (r : Int64) (hf : f_X9_allOpen N mo_people mo_quarters mo_tired p1 = some r) : RoC l D cI cJ cZ cS yX9_allOpen cX9_allOpen 5 (some .long) 1 23 (w_X9 cI cJ cZ cS mo_A mo_looks_A mo_period_A mo_shut_A mo_phase_A mo_quarters_A mo_tall_A mo_pairs_A mo_pad_A mo_cuts_A mo_at_A mo_first_A mo_kept_A mo_isKept_A mo_people mo_shots mo_looks mo_bride mo_hands mo_period mo_shut mo_phase mo_flash mo_quarters mo_tired mo_rows mo_columns mo_rise mo_tall mo_pairs mo_pad mo_padMany mo_cuts mo_at mo_first mo_kept mo_isKept mo_keptAt mo_isWriting) [.ref mo_A, .int p1] (some (.long r)) := by
  refine ro_in_l (own := RX9) (by decide +kernel) rfl (Nat.le_of_ble_eq_true rfl) ?_
  intro p e s m args below meth c ls Q E hQ hP hl
  obtain ⟨hx, hb, hml, hown, hts, hK, hN, hAO⟩ := id E
  have hl : lv_has ls 5 [(0, .ref mo_A), (1, .int p1)] := hl
  unfold f_X9_allOpen at hf
  refine lv_lconst (pc := 0) (v := (1 : Int64)) hx hb dX9_allOpen_0 (by decide) ?_
  refine lv_lstore_n (pc := 1) (lv' := [(2, .long (1 : Int64)), (0, .ref mo_A), (1, .int p1)]) hx hb dX9_allOpen_1 rfl hl (by decide) rfl (fun ls hl => ?_)
  refine lv_iconst (pc := 2) (v := (0 : Int32)) hx hb dX9_allOpen_2 (by decide) ?_
  refine lv_istore (pc := 3) (lv' := [(4, .int (0 : Int32)), (2, .long (1 : Int64)), (0, .ref mo_A), (1, .int p1)]) hx hb dX9_allOpen_3 hl (by decide) rfl (fun ls hl => ?_)
  obtain ⟨k4, hk4, hf⟩ := lc1_e hf
  have K4 : ∀ (z5 : Int64) (ls : Array Slot), k4 z5 = some r → lv_has ls 5 [(2, .long z5)] → W p l e (roR 1 23) s m args below meth c s.heap [] 0 0 Q (F0 m 33 ls []) := by
    intro z5 ls hf hl
    rw [hk4] at hf
    refine lv_lload_n (pc := 33) hx hb dX9_allOpen_33 rfl (lv_at hl 0 rfl) ?_
    exact hQ _ _ _ dX9_allOpen_34 hf
  have L5 : ∀ (n : Nat), ∀ (y1 : Int64) (y2 : Int32) (ls : Array Slot), f_X9_allOpen_L5 mo_people mo_quarters mo_tired p1 k4 n y1 y2 = some r → lv_has ls 5 [(0, .ref mo_A), (1, .int p1), (2, .long y1), (4, .int y2)] → W p l e (roR 1 23) s m args below meth c s.heap [] 0 0 Q (F0 m 5 ls []) := by
    intro n
    induction n with
    | zero =>
      intro y1 y2 ls hf
      rw [f_X9_allOpen_L5] at hf
      cases hf
    | succ n ih =>
      intro y1 y2 ls hf hl
      rw [f_X9_allOpen_L5] at hf
      refine lv_iload (pc := 5) hx hb dX9_allOpen_5 (lv_at hl 3 rfl) ?_
      refine lv_aload_n (pc := 7) hx hb dX9_allOpen_7 rfl (lv_at hl 0 rfl) ?_
      refine va_get (pc := 8) (D := D) (ci := 9) (v := .int mo_people) (C := RX9) (T := TX9) (N := 25) hx hb hts inG9 hown hK hP 0 rfl rfl 0 (by decide) (hts _ tw_711) (fun _ h9 => h9) rfl dX9_allOpen_8 ?_
      refine r_ic_ge (pc := 11) (tgt := 33) hx hb dX9_allOpen_11 (by decide) hf (fun hf => ?_) (fun hf => ?_)
      · exact K4 _ _ hf (lv_sub hl [2] rfl)
      · refine lv_lload_n (pc := 14) hx hb dX9_allOpen_14 rfl (lv_at hl 2 rfl) ?_
        refine lv_iconst (pc := 15) (v := (4 : Int32)) hx hb dX9_allOpen_15 (by decide) ?_
        refine lv_aload_n (pc := 16) hx hb dX9_allOpen_16 rfl (lv_at hl 0 rfl) ?_
        refine lv_iload (pc := 17) hx hb dX9_allOpen_17 (lv_at hl 3 rfl) ?_
        refine lv_iload_n (pc := 19) hx hb dX9_allOpen_19 rfl (lv_at hl 1 rfl) ?_
        obtain ⟨v6, hv20, hf⟩ := bd_e hf
        refine ro_Vi (pc := 20) (As := [.int y2, .int p1]) (rest := [.int (4 : Int32), .long y1]) E (c_X9_quartersOf l D cI cJ cZ cS mo_A mo_looks_A mo_period_A mo_shut_A mo_phase_A mo_quarters_A mo_tall_A mo_pairs_A mo_pad_A mo_cuts_A mo_at_A mo_first_A mo_kept_A mo_isKept_A mo_people mo_shots mo_looks mo_bride mo_hands mo_period mo_shut mo_phase mo_flash mo_quarters mo_tired mo_rows mo_columns mo_rise mo_tall mo_pairs mo_pad mo_padMany mo_cuts mo_at mo_first mo_kept mo_isKept mo_keptAt mo_isWriting y2 p1 v6 hv20) F_X9_quartersOf rfl rfl tw_944 tw_946 tp_37 hP ⟨by decide, by decide⟩ rfl hl.1 (Nat.le_of_ble_eq_true rfl) ⟨by decide, by decide⟩ rfl dX9_allOpen_20 ?_
        refine lv_isub (pc := 23) hx hb dX9_allOpen_23 ?_
        refine lv_i2l (pc := 24) (v := (Int32.toInt64 ((4 : Int32) - v6))) hx hb dX9_allOpen_24 rfl ?_
        refine lv_lmul (pc := 25) hx hb dX9_allOpen_25 ?_
        refine lv_lstore_n (pc := 26) (lv' := [(2, .long (y1 * (Int32.toInt64 ((4 : Int32) - v6)))), (0, .ref mo_A), (1, .int p1), (4, .int y2)]) hx hb dX9_allOpen_26 rfl hl (by decide) rfl (fun ls hl => ?_)
        refine lv_iinc (pc := 27) (v := (y2 + (1 : Int32))) (lv' := [(4, .int (y2 + (1 : Int32))), (2, .long (y1 * (Int32.toInt64 ((4 : Int32) - v6)))), (0, .ref mo_A), (1, .int p1)]) hx hb dX9_allOpen_27 hl (k := 3) rfl (by rfl) (by decide) rfl (fun ls hl => ?_)
        refine lv_goto (pc := 30) (tgt := 5) hx hb dX9_allOpen_30 (by decide) ?_
        exact ih _ _ _ hf (lv_sub hl [2, 3, 1, 0] rfl)
  exact L5 N _ _ _ hf (lv_sub hl [2, 3, 1, 0] rfl)
theorem F_X9_lowest : CalF yX9_lowest cX9_lowest 11 (some .long) 3 := ⟨tw_950, tw_10, by decide +kernel⟩
set_option maxRecDepth 100000 in
set_option maxHeartbeats 4000000 in
theorem c_X9_lowest (l : Launch) (D : va_G) (cI cJ cZ cS : ClassId) (N : Nat) (p1 : Int64) (p2 : Int64) (p3 : Int32) (r : Int64) (hf : f_X9_lowest N p1 p2 p3 = some r) : RoC l D cI cJ cZ cS yX9_lowest cX9_lowest 11 (some .long) 0 0 [] [.long p1, .long p2, .int p3] (some (.long r)) := by
  refine ro_in_l (own := RX9) (by decide +kernel) rfl (Nat.le_of_ble_eq_true rfl) ?_
  intro p e s m args below meth c ls Q E hQ hP hl
  obtain ⟨hx, hb, hml, hown, hts, hK, hN, hAO⟩ := id E
  have hl : lv_has ls 11 [(0, .long p1), (2, .long p2), (4, .int p3)] := hl
  unfold f_X9_lowest at hf
  refine lv_lload_n (pc := 0) hx hb dX9_lowest_0 rfl (lv_at hl 1 rfl) ?_
  refine lv_lstore (pc := 1) (lv' := [(5, .long p2), (0, .long p1), (2, .long p2), (4, .int p3)]) hx hb dX9_lowest_1 hl (by decide) rfl (fun ls hl => ?_)
  refine lv_lload_n (pc := 3) hx hb dX9_lowest_3 rfl (lv_at hl 1 rfl) ?_
  refine lv_lstore (pc := 4) (lv' := [(7, .long p1), (5, .long p2), (0, .long p1), (2, .long p2), (4, .int p3)]) hx hb dX9_lowest_4 hl (by decide) rfl (fun ls hl => ?_)
  obtain ⟨k4, hk4, hf⟩ := lc1_e hf
  have K4 : ∀ (z5 : Int64) (ls : Array Slot), k4 z5 = some r → lv_has ls 11 [(0, .long p1), (2, .long p2), (4, .int p3), (5, .long z5)] → W p l e (roR 0 0) s m args below meth c s.heap [] 0 0 Q (F0 m 31 ls []) := by
    intro z5 ls hf hl
    rw [hk4] at hf
    refine lv_iload (pc := 31) hx hb dX9_lowest_31 (lv_at hl 2 rfl) ?_
    refine r_if_ne (pc := 33) (tgt := 43) hx hb dX9_lowest_33 (by decide) hf (fun hf => ?_) (fun hf => ?_)
    · refine lv_lload_n (pc := 43) hx hb dX9_lowest_43 rfl (lv_at hl 1 rfl) ?_
      refine lv_lload (pc := 44) hx hb dX9_lowest_44 (lv_at hl 3 rfl) ?_
      refine r_ldiv (pc := 46) hx hb hf dX9_lowest_46 (fun v7 hf => ?_)
      exact hQ _ _ _ dX9_lowest_47 hf
    · refine lv_lload_n (pc := 36) hx hb dX9_lowest_36 rfl (lv_at hl 0 rfl) ?_
      refine lv_lload (pc := 37) hx hb dX9_lowest_37 (lv_at hl 3 rfl) ?_
      refine r_ldiv (pc := 39) hx hb hf dX9_lowest_39 (fun v8 hf => ?_)
      refine lv_goto (pc := 40) (tgt := 47) hx hb dX9_lowest_40 (by decide) ?_
      exact hQ _ _ _ dX9_lowest_47 hf
  have L6 : ∀ (n : Nat), ∀ (y1 : Int64) (y2 : Int64) (ls : Array Slot), f_X9_lowest_L6 k4 n y1 y2 = some r → lv_has ls 11 [(0, .long p1), (2, .long p2), (4, .int p3), (5, .long y1), (7, .long y2)] → W p l e (roR 0 0) s m args below meth c s.heap [] 0 0 Q (F0 m 6 ls []) := by
    intro n
    induction n with
    | zero =>
      intro y1 y2 ls hf
      rw [f_X9_lowest_L6] at hf
      cases hf
    | succ n ih =>
      intro y1 y2 ls hf hl
      rw [f_X9_lowest_L6] at hf
      refine lv_lload (pc := 6) hx hb dX9_lowest_6 (lv_at hl 4 rfl) ?_
      refine lv_lconst (pc := 8) (v := (0 : Int64)) hx hb dX9_lowest_8 (by decide) ?_
      refine W.lcmp (pc := 9) hx hb dX9_lowest_9 ?_
      refine r_if_eq (pc := 10) (tgt := 31) hx hb dX9_lowest_10 (by decide) hf (fun hf => ?_) (fun hf => ?_)
      · exact K4 _ _ hf (lv_sub hl [0, 1, 2, 3] rfl)
      · refine lv_lload (pc := 13) hx hb dX9_lowest_13 (lv_at hl 3 rfl) ?_
        refine lv_lload (pc := 15) hx hb dX9_lowest_15 (lv_at hl 4 rfl) ?_
        refine r_lrem (pc := 17) hx hb hf dX9_lowest_17 (fun v6 hf => ?_)
        refine lv_lstore (pc := 18) (lv' := [(9, .long v6), (0, .long p1), (2, .long p2), (4, .int p3), (5, .long y1), (7, .long y2)]) hx hb dX9_lowest_18 hl (by decide) rfl (fun ls hl => ?_)
        refine lv_lload (pc := 20) hx hb dX9_lowest_20 (lv_at hl 5 rfl) ?_
        refine lv_lstore (pc := 22) (lv' := [(5, .long y2), (9, .long v6), (0, .long p1), (2, .long p2), (4, .int p3), (7, .long y2)]) hx hb dX9_lowest_22 hl (by decide) rfl (fun ls hl => ?_)
        refine lv_lload (pc := 24) hx hb dX9_lowest_24 (lv_at hl 1 rfl) ?_
        refine lv_lstore (pc := 26) (lv' := [(7, .long v6), (5, .long y2), (9, .long v6), (0, .long p1), (2, .long p2), (4, .int p3)]) hx hb dX9_lowest_26 hl (by decide) rfl (fun ls hl => ?_)
        refine lv_goto (pc := 28) (tgt := 6) hx hb dX9_lowest_28 (by decide) ?_
        exact ih _ _ _ hf (lv_sub hl [3, 4, 5, 1, 0] rfl)
  exact L6 N _ _ _ hf (lv_sub hl [2, 3, 4, 1, 0] rfl)
theorem F_X9_likely : CalF yX9_likely cX9_likely 3 (some .long) 2 := ⟨tw_938, tw_10, by decide +kernel⟩
set_option maxRecDepth 100000 in
set_option maxHeartbeats 4000000 in
theorem c_X9_likely (l : Launch) (D : va_G) (cI cJ cZ cS : ClassId) (N : Nat) (mo_A mo_looks_A mo_period_A mo_shut_A mo_phase_A mo_quarters_A mo_tall_A mo_pairs_A mo_pad_A mo_cuts_A mo_at_A mo_first_A mo_kept_A mo_isKept_A : Nat) (mo_people : Int32) (mo_shots : Int32) (mo_looks : Nat → Int32) (mo_bride : Int32) (mo_hands : Int32) (mo_period : Nat → Int32) (mo_shut : Nat → Int32) (mo_phase : Nat → Int32) (mo_flash : Int32) (mo_quarters : Nat → Int32) (mo_tired : Int32) (mo_rows : Int32) (mo_columns : Int32) (mo_rise : Int32) (mo_tall : Nat → Int32) (mo_pairs : Nat → Int32) (mo_pad : Nat → Int32) (mo_padMany : Int32) (mo_cuts : Nat → Int32) (mo_at : Nat → Int32) (mo_first : Nat → Int32) (mo_kept : Nat → Int32) (mo_isKept : Nat → Int32) (mo_keptAt : Int32) (mo_isWriting : Int32) (p1 : Int32) (p2 : Int32) (r : Int64) (hf : f_X9_likely N mo_people mo_quarters mo_tired p1 p2 = some r) : RoC l D cI cJ cZ cS yX9_likely cX9_likely 3 (some .long) 2 47 (w_X9 cI cJ cZ cS mo_A mo_looks_A mo_period_A mo_shut_A mo_phase_A mo_quarters_A mo_tall_A mo_pairs_A mo_pad_A mo_cuts_A mo_at_A mo_first_A mo_kept_A mo_isKept_A mo_people mo_shots mo_looks mo_bride mo_hands mo_period mo_shut mo_phase mo_flash mo_quarters mo_tired mo_rows mo_columns mo_rise mo_tall mo_pairs mo_pad mo_padMany mo_cuts mo_at mo_first mo_kept mo_isKept mo_keptAt mo_isWriting) [.ref mo_A, .int p1, .int p2] (some (.long r)) := by
  refine ro_in_l (own := RX9) (by decide +kernel) rfl (Nat.le_of_ble_eq_true rfl) ?_
  intro p e s m args below meth c ls Q E hQ hP hl
  obtain ⟨hx, hb, hml, hown, hts, hK, hN, hAO⟩ := id E
  have hl : lv_has ls 3 [(0, .ref mo_A), (1, .int p1), (2, .int p2)] := hl
  unfold f_X9_likely at hf
  refine lv_iload_n (pc := 0) hx hb dX9_likely_0 rfl (lv_at hl 1 rfl) ?_
  refine lv_i2l (pc := 1) (v := (Int32.toInt64 p1)) hx hb dX9_likely_1 rfl ?_
  refine lv_lconst (pc := 2) (v := (0 : Int64)) hx hb dX9_likely_2 (by decide) ?_
  refine lv_ldc2 (pc := 3) hx hb hown (hts _ tw_933) dX9_likely_3 ?_
  obtain ⟨v1, hv6, hf⟩ := bd_e hf
  refine ro_Si (pc := 6) (As := [.long (Int32.toInt64 p1), .long (0 : Int64), .long (20 : Int64)]) (rest := []) E (c_X9_in l D cI cJ cZ cS (Int32.toInt64 p1) (0 : Int64) (20 : Int64) v1 hv6) F_X9_in tw_793 tw_794  va_P_nil ⟨by decide, by decide⟩ rfl hl.1 (Nat.le_of_ble_eq_true rfl) ⟨by decide, by decide⟩ rfl dX9_likely_6 ?_
  obtain ⟨k2, hk2, hf⟩ := lc0_e hf
  have K2 : ∀  (ls : Array Slot), k2 = some r → lv_has ls 3 [] → W p l e (roR 2 47) s m args below meth c s.heap [] 0 0 Q (F0 m 22 ls []) := by
    intro  ls hf hl
    rw [hk2] at hf
    refine lv_ldc2 (pc := 22) hx hb hown (hts _ tw_939) dX9_likely_22 ?_
    exact hQ _ _ _ dX9_likely_25 hf
  refine r_if_eq (pc := 9) (tgt := 22) hx hb dX9_likely_9 (by decide) hf (fun hf => ?_) (fun hf => ?_)
  · exact K2  _ hf (lv_sub hl [] rfl)
  · refine lv_iload_n (pc := 12) hx hb dX9_likely_12 rfl (lv_at hl 2 rfl) ?_
    refine lv_i2l (pc := 13) (v := (Int32.toInt64 p2)) hx hb dX9_likely_13 rfl ?_
    refine lv_lconst (pc := 14) (v := (0 : Int64)) hx hb dX9_likely_14 (by decide) ?_
    refine lv_lconst (pc := 15) (v := (1 : Int64)) hx hb dX9_likely_15 (by decide) ?_
    obtain ⟨v3, hv16, hf⟩ := bd_e hf
    refine ro_Si (pc := 16) (As := [.long (Int32.toInt64 p2), .long (0 : Int64), .long (1 : Int64)]) (rest := []) E (c_X9_in l D cI cJ cZ cS (Int32.toInt64 p2) (0 : Int64) (1 : Int64) v3 hv16) F_X9_in tw_793 tw_794  va_P_nil ⟨by decide, by decide⟩ rfl hl.1 (Nat.le_of_ble_eq_true rfl) ⟨by decide, by decide⟩ rfl dX9_likely_16 ?_
    refine r_if_ne (pc := 19) (tgt := 26) hx hb dX9_likely_19 (by decide) hf (fun hf => ?_) (fun hf => ?_)
    · refine lv_aload_n (pc := 26) hx hb dX9_likely_26 rfl (lv_at hl 0 rfl) ?_
      refine lv_iload_n (pc := 27) hx hb dX9_likely_27 rfl (lv_at hl 1 rfl) ?_
      obtain ⟨v4, hv28, hf⟩ := bd_e hf
      refine ro_Vl (pc := 28) (As := [.int p1]) (rest := []) E (c_X9_allOpen l D cI cJ cZ cS N mo_A mo_looks_A mo_period_A mo_shut_A mo_phase_A mo_quarters_A mo_tall_A mo_pairs_A mo_pad_A mo_cuts_A mo_at_A mo_first_A mo_kept_A mo_isKept_A mo_people mo_shots mo_looks mo_bride mo_hands mo_period mo_shut mo_phase mo_flash mo_quarters mo_tired mo_rows mo_columns mo_rise mo_tall mo_pairs mo_pad mo_padMany mo_cuts mo_at mo_first mo_kept mo_isKept mo_keptAt mo_isWriting p1 v4 hv28) F_X9_allOpen rfl rfl tw_940 tw_942 tp_36 hP ⟨by decide, by decide⟩ rfl hl.1 (Nat.le_of_ble_eq_true rfl) ⟨by decide, by decide⟩ rfl dX9_likely_28 ?_
      refine lv_lconst (pc := 31) (v := (1 : Int64)) hx hb dX9_likely_31 (by decide) ?_
      refine lv_iconst (pc := 32) (v := (2 : Int32)) hx hb dX9_likely_32 (by decide) ?_
      refine lv_aload_n (pc := 33) hx hb dX9_likely_33 rfl (lv_at hl 0 rfl) ?_
      refine va_get (pc := 34) (D := D) (ci := 9) (v := .int mo_people) (C := RX9) (T := TX9) (N := 25) hx hb hts inG9 hown hK hP 0 rfl rfl 0 (by decide) (hts _ tw_711) (fun _ h9 => h9) rfl dX9_likely_34 ?_
      refine lv_imul (pc := 37) hx hb dX9_likely_37 ?_
      refine lv_lshl (pc := 38) (v := ((1 : Int64) <<< (Int32.toInt64 ((2 : Int32) * mo_people) &&& 63))) hx hb dX9_likely_38 rfl ?_
      refine lv_iload_n (pc := 39) hx hb dX9_likely_39 rfl (lv_at hl 2 rfl) ?_
      obtain ⟨v5, hv40, hf⟩ := bd_e hf
      refine ro_Sl (pc := 40) (As := [.long v4, .long ((1 : Int64) <<< (Int32.toInt64 ((2 : Int32) * mo_people) &&& 63)), .int p2]) (rest := []) E (c_X9_lowest l D cI cJ cZ cS N v4 ((1 : Int64) <<< (Int32.toInt64 ((2 : Int32) * mo_people) &&& 63)) p2 v5 hv40) F_X9_lowest tw_948 tw_949  va_P_nil ⟨by decide, by decide⟩ rfl hl.1 (Nat.le_of_ble_eq_true rfl) ⟨by decide, by decide⟩ rfl dX9_likely_40 ?_
      exact hQ _ _ _ dX9_likely_43 hf
    · exact K2  _ hf (lv_sub hl [] rfl)
