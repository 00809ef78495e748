set_option maxHeartbeats 4000000 in
set_option maxRecDepth 100000 in
theorem whole_start {p : Program} {e : Env} {s : State} {m : MethodId} {below : List Frame} {meth : Method} {c : Code} (l : Launch) (hflags : l.flags = flags0) {b L : Nat} {xs : Nat → Int32} (hL : L ≤ 2048) (C0 : lw_At p s m meth c b L xs) : W p l e room_1 s m #[Value.ref b] below meth c s.heap [] 0 0 (lw_Z below #[Value.ref b] s) (entryFrame m ([Value.ref b] : List Value).toArray 4) := by
  obtain ⟨hx, hb, hr, hml, hown, hts, hX, hbl, hlocks, hgv⟩ := id C0
  have hA : ∀ q : Nat, s.heap.size ≤ q → (fun q : Nat => s.heap.size ≤ q) q := fun _ h => h
  have hbA : ¬ (fun q : Nat => s.heap.size ≤ q) b := Nat.not_le.mpr hbl
  have htg : ∀ w ∈ gw, w.before #[Value.ref b] s = true := fun w h => hts w (gw_tbl h)
  obtain ⟨c0, iS0, hKn0⟩ := u_known (C := RX0) (T := TX0) (N := 2) (n := 2) htg inG0 (htg _ tw_66)
  obtain ⟨c1, iS1, hKn1⟩ := u_known (C := RX1) (T := TX1) (N := 2) (n := 2) htg inG1 (htg _ tw_161)
  obtain ⟨c2, iS2, hKn2⟩ := u_known (C := RX2) (T := TX2) (N := 2) (n := 2) htg inG2 (htg _ tw_84)
  obtain ⟨c3, iS3, hKn3⟩ := u_known (C := RX3) (T := TX3) (N := 2) (n := 2) htg inG3 (htg _ tw_23)
  obtain ⟨c4, iS4, hKn4⟩ := u_known (C := RX4) (T := TX4) (N := 4) (n := 4) htg inG4 (htg _ tw_174)
  obtain ⟨c5, iS5, hKn5⟩ := u_known (C := RX5) (T := TX5) (N := 6) (n := 6) htg inG5 (htg _ tw_38)
  obtain ⟨c6, iS6, hKn6⟩ := u_known (C := RX6) (T := TX6) (N := 4) (n := 4) htg inG6 (htg _ tw_44)
  obtain ⟨c7, iS7, hKn7⟩ := u_known (C := RX7) (T := TX7) (N := 6) (n := 6) htg inG7 (htg _ tw_102)
  obtain ⟨c8, iS8, hKn8⟩ := u_known (C := RX8) (T := TX8) (N := 6) (n := 6) htg inG8 (htg _ tw_15)
  obtain ⟨c9, iS9, hKn9⟩ := u_known (C := RX9) (T := TX9) (N := 25) (n := 25) htg inG9 (htg _ tw_702)
  obtain ⟨dC, dI, hKc⟩ : ∃ (dC : Nat → ClassId) (dI : Nat → Nat → Nat), ∀ (k : Nat) (q : vw_C), vwCl[k]? = some q → u_Kn s q.1 q.2.1 q.2.2 (dC k) (dI k) := by
    refine ⟨fun k => if k = 0 then c0 else if k = 1 then c1 else if k = 2 then c2 else if k = 3 then c3 else if k = 4 then c4 else if k = 5 then c5 else if k = 6 then c6 else if k = 7 then c7 else if k = 8 then c8 else c9, fun k => if k = 0 then iS0 else if k = 1 then iS1 else if k = 2 then iS2 else if k = 3 then iS3 else if k = 4 then iS4 else if k = 5 then iS5 else if k = 6 then iS6 else if k = 7 then iS7 else if k = 8 then iS8 else iS9, ?_⟩
    intro k q hq
    match k, hq with
    | 0, hq => cases hq; exact hKn0
    | 1, hq => cases hq; exact hKn1
    | 2, hq => cases hq; exact hKn2
    | 3, hq => cases hq; exact hKn3
    | 4, hq => cases hq; exact hKn4
    | 5, hq => cases hq; exact hKn5
    | 6, hq => cases hq; exact hKn6
    | 7, hq => cases hq; exact hKn7
    | 8, hq => cases hq; exact hKn8
    | 9, hq => cases hq; exact hKn9
    | k + 10, hq => simp [vwCl] at hq
  obtain ⟨cI, kI, pI, a1, a2, a3⟩ := Cond.arrayClass_spec (htg _ tw_36)
  obtain ⟨cJ, kJ, pJ, a4, a5, a6⟩ := Cond.arrayClass_spec (htg _ tw_193)
  obtain ⟨cZ, kZ, pZ, a7, a8, a9⟩ := Cond.arrayClass_spec (htg _ tw_787)
  obtain ⟨comp, cS, kS, b1, b2, b3, b4, b5⟩ := Cond.arrayOver_spec (hts _ tq_over)
  have hK : va_K (dC, dI) vwCl (tyL cI cJ cZ cS) s := by
    refine ⟨hKc, fun k q h => ?_⟩
    match k, h with
    | 0, h => cases h; exact ⟨fun n z => ⟨fun k h => (by cases h), kI, a2, pI, a3⟩, a1⟩
    | 1, h => cases h; exact ⟨fun n z => ⟨fun k h => (by cases h), kJ, a5, pJ, a6⟩, a4⟩
    | 2, h => cases h; exact ⟨fun n z => ⟨fun k h => (by cases h), kZ, a8, pZ, a9⟩, a7⟩
    | 3, h => cases h; exact ⟨fun n z => ⟨fun k h => (by cases h), kS, b3, comp, b4⟩, kS, comp, b3, b4, b1, b5⟩
    | k + 4, h => simp [tyL] at h
  have hG : GK (dC, dI) cI cJ cZ cS s := ⟨hK, fun w hw => by
    have hw2 := nest_tbl w hw
    rcases nest_shape w hw with ⟨a, i, b', n, d, hh, rfl⟩ | ⟨a, i, x, hh, rfl⟩
    · exact hts _ hw2
    · exact hts _ hw2, va_AO.of (hts _ tq_over)⟩
  have E : Ev p s m #[Value.ref b] c cL_law 4 RL (dC, dI) cI cJ cZ cS := ⟨hx, hb, hml, hown, htg, hG⟩
  generalize hDD : ((dC, dI) : va_G) = D at hK hG E
  have hS : va_S (fun q : Nat => s.heap.size ≤ q) s.heap s.heap [] := va_S.rf
  have hP : va_P D vwCl [] s.heap := va_P_nil
  have hD : va_D (fun q : Nat => s.heap.size ≤ q) [] := ⟨fun i j p q h => by simp at h, fun k q h => by simp at h⟩
  have hl := lv_entry ([.ref b]) (n := 4) (Nat.le_of_ble_eq_true rfl)
  rw [lg_entry_eq]
  generalize (lg_sl ([.ref b]) ++ List.replicate (4 - (lg_sl ([.ref b])).length) Slot.unset).toArray = ls at hl ⊢
  have hl : lv_has ls 4 [(0, .ref b)] := hl
  have hownL : s.vm.findClass RL = some m.cls := hown
  obtain ⟨N, set, Qs, talls, pairs, mper, mshut, mpha, mQ, mtall, mpairs, f1, f2, hsh, hbl', hod, hst⟩ := pu_init
  refine va_new (pc := 0) (ci := 8) (fs := [.null, .null, .null, .null, .null, .null]) (C := RX8) (T := TX8) (N := 6) hx hb htg inG8 tyX8 tyX8_ok hownL (htg _ tw_14) (htg _ tw_15) (htg _ tw_1) hK hP hD hS hA rfl (fun j hj => by rcases (show j = 0 ∨ j = 1 ∨ j = 2 ∨ j = 3 ∨ j = 4 ∨ j = 5 by omega) with rfl | rfl | rfl | rfl | rfl | rfl <;> rfl) (by decide) (by decide) dL_law_0 (fun oe_A H hP hD hS => ?_)
  have hP : va_P D vwCl [(oe_A, .inr (8, [.null, .null, .null, .null, .null, .null]))] H := hP
  have hD : va_D (fun q : Nat => s.heap.size ≤ q) [(oe_A, .inr (8, [.null, .null, .null, .null, .null, .null]))] := hD
  refine lv_dup (pc := 3) hx hb dL_law_3 rfl ?_
  refine ct_I (pc := 4) (rest := [.ref oe_A]) (wr := []) E (c_X8_init l D cI cJ cZ cS N oe_A H.size (fun _ => none) (fun _ => 0) (fun _ => 0) 0 4 (-6) 0 0 (fun _ => 0) (fun _ => 0) (-1) set 20 Qs 2 3 10 talls pairs 1 (fun _ => 0) (fun _ => 0) (fun _ => 0) (fun _ => 0) 0 0 f1) F_X8_init tw_16 tw_17 rfl hP hD hS hA [0] [] rfl rfl (by decide) (by decide) (by decide) ⟨by decide, by decide⟩ hl.1 (Nat.le_of_ble_eq_true rfl) ⟨by decide, by decide⟩ rfl dL_law_4 (fun w1 H locs hw hP hD hS => ?_)
  obtain ⟨oe_kept_A, oe_standing_A, pa_A, pa_signs_A, sc_A, sh_A, sh_looks_A, sh_openBits_A, bl_A, bl_settings_A, od_A, od_quarters_A, st_A, st_talls_A, st_pairs_A, hw_A, hw_cutsFrom_A, hw_chosen_A, pw_A, pw_leaves_A, pw_first_A, rfl⟩ := hw
  have hP : va_P D vwCl (w_OE cI cJ cZ cS oe_A oe_kept_A oe_standing_A pa_A pa_signs_A sc_A sh_A sh_looks_A sh_openBits_A bl_A bl_settings_A od_A od_quarters_A st_A st_talls_A st_pairs_A hw_A hw_cutsFrom_A hw_chosen_A pw_A pw_leaves_A pw_first_A (fun _ => none) (fun _ => 0) (fun _ => 0) 0 4 (-6) 0 0 (fun _ => 0) (fun _ => 0) (-1) set 20 Qs 2 3 10 talls pairs 1 (fun _ => 0) (fun _ => 0) (fun _ => 0) (fun _ => 0) 0 0) H := hP
  have hD : va_D (fun q : Nat => s.heap.size ≤ q) (w_OE cI cJ cZ cS oe_A oe_kept_A oe_standing_A pa_A pa_signs_A sc_A sh_A sh_looks_A sh_openBits_A bl_A bl_settings_A od_A od_quarters_A st_A st_talls_A st_pairs_A hw_A hw_cutsFrom_A hw_chosen_A pw_A pw_leaves_A pw_first_A (fun _ => none) (fun _ => 0) (fun _ => 0) 0 4 (-6) 0 0 (fun _ => 0) (fun _ => 0) (-1) set 20 Qs 2 3 10 talls pairs 1 (fun _ => 0) (fun _ => 0) (fun _ => 0) (fun _ => 0) 0 0) := hD
  refine lv_astore_n (pc := 7) (lv' := [(1, .ref oe_A), (0, .ref b)]) hx hb dL_law_7 rfl hl (by decide) rfl (fun ls hl => ?_)
  refine va_new (pc := 8) (ci := 9) (fs := [.int (0 : Int32), .int (0 : Int32), .null, .int (0 : Int32), .int (0 : Int32), .null, .null, .null, .int (0 : Int32), .null, .int (0 : Int32), .int (0 : Int32), .int (0 : Int32), .int (0 : Int32), .null, .null, .null, .int (0 : Int32), .null, .null, .null, .null, .null, .int (0 : Int32), .int (0 : Int32)]) (C := RX9) (T := TX9) (N := 25) hx hb htg inG9 tyX9 tyX9_ok hownL (htg _ tw_701) (htg _ tw_702) (htg _ tw_10) hK hP hD hS hA rfl (fun j hj => by rcases (show j = 0 ∨ j = 1 ∨ j = 2 ∨ j = 3 ∨ j = 4 ∨ j = 5 ∨ j = 6 ∨ j = 7 ∨ j = 8 ∨ j = 9 ∨ j = 10 ∨ j = 11 ∨ j = 12 ∨ j = 13 ∨ j = 14 ∨ j = 15 ∨ j = 16 ∨ j = 17 ∨ j = 18 ∨ j = 19 ∨ j = 20 ∨ j = 21 ∨ j = 22 ∨ j = 23 ∨ j = 24 by omega) with rfl | rfl | rfl | rfl | rfl | rfl | rfl | rfl | rfl | rfl | rfl | rfl | rfl | rfl | rfl | rfl | rfl | rfl | rfl | rfl | rfl | rfl | rfl | rfl | rfl <;> rfl) (by decide) (by decide) dL_law_8 (fun mo_A H hP hD hS => ?_)
  refine lv_dup (pc := 11) hx hb dL_law_11 rfl ?_
  refine ct_I (pc := 12) (rest := [.ref mo_A]) (wr := w_OE cI cJ cZ cS oe_A oe_kept_A oe_standing_A pa_A pa_signs_A sc_A sh_A sh_looks_A sh_openBits_A bl_A bl_settings_A od_A od_quarters_A st_A st_talls_A st_pairs_A hw_A hw_cutsFrom_A hw_chosen_A pw_A pw_leaves_A pw_first_A (fun _ => none) (fun _ => 0) (fun _ => 0) 0 4 (-6) 0 0 (fun _ => 0) (fun _ => 0) (-1) set 20 Qs 2 3 10 talls pairs 1 (fun _ => 0) (fun _ => 0) (fun _ => 0) (fun _ => 0) 0 0) E (c_X9_init l D cI cJ cZ cS N mo_A H.size 4 0 (fun _ => 0) (-6) 0 mper mshut mpha (-1) mQ 20 2 3 10 mtall mpairs (fun _ => 0) 0 (fun _ => 0) (fun _ => 0) (fun _ => 0) (fun _ => 0) (fun _ => 0) 0 0 f2) F_X9_init tw_703 tw_704 rfl hP hD hS hA [22] [0, 1, 2, 3, 4, 5, 6, 7, 8, 9, 10, 11, 12, 13, 14, 15, 16, 17, 18, 19, 20, 21] rfl rfl (by decide) (by decide) (by decide) ⟨by decide, by decide⟩ hl.1 (Nat.le_of_ble_eq_true rfl) ⟨by decide, by decide⟩ rfl dL_law_12 (fun w1 H locs hw hP hD hS => ?_)
  obtain ⟨mo_looks_A, mo_period_A, mo_shut_A, mo_phase_A, mo_quarters_A, mo_tall_A, mo_pairs_A, mo_pad_A, mo_cuts_A, mo_at_A, mo_first_A, mo_kept_A, mo_isKept_A, rfl⟩ := hw
  refine lv_astore_n (pc := 15) (lv' := [(2, .ref mo_A), (1, .ref oe_A), (0, .ref b)]) hx hb dL_law_15 rfl hl (by decide) rfl (fun ls hl => ?_)
  refine lv_iconst (pc := 16) (v := (0 : Int32)) hx hb dL_law_16 (by decide) ?_
  refine lv_istore_n (pc := 17) (lv' := [(3, .int 0), (2, .ref mo_A), (1, .ref oe_A), (0, .ref b)]) hx hb dL_law_17 rfl hl (by decide) rfl (fun ls hl => ?_)
  refine W.widen (k := 36 + 11 * 0) (n := 1265 + 214 * 0) (by decide) (by decide) ?_
  exact law_loop l hL C0 E (L + 1) 0 (by omega) (by omega) _ H locs (ST_mk cI cJ cZ cS oe_A mo_A oe_kept_A oe_standing_A pa_A pa_signs_A sc_A sh_A sh_looks_A sh_openBits_A bl_A bl_settings_A od_A od_quarters_A st_A st_talls_A st_pairs_A hw_A hw_cutsFrom_A hw_chosen_A pw_A pw_leaves_A pw_first_A mo_looks_A mo_period_A mo_shut_A mo_phase_A mo_quarters_A mo_tall_A mo_pairs_A mo_pad_A mo_cuts_A mo_at_A mo_first_A mo_kept_A mo_isKept_A (fun _ => none) (fun _ => 0) (fun _ => 0) 0 4 (-6) 0 0 (fun _ => 0) (fun _ => 0) (-1) set 20 Qs 2 3 10 talls pairs 1 (fun _ => 0) (fun _ => 0) (fun _ => 0) (fun _ => 0) 0 0 4 0 (fun _ => 0) (-6) 0 mper mshut mpha (-1) mQ 20 2 3 10 mtall mpairs (fun _ => 0) 0 (fun _ => 0) (fun _ => 0) (fun _ => 0) (fun _ => 0) (fun _ => 0) 0 0 [] [] 4 0 2 3 pad_0 hsh hbl' hod hst (Or.inl rfl) (Or.inl ⟨rfl, rfl, rfl⟩) (Or.inl ⟨rfl, rfl, rfl⟩)) hP hD hS ls (lv_sub hl [3, 2, 1, 0] rfl)
