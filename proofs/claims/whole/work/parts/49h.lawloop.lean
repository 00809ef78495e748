set_option maxRecDepth 100000 in
theorem law_loop {p : Program} {e : Env} {s : State} {m : MethodId} {below : List Frame} {meth : Method} {c : Code} (l : Launch) {D : va_G} {cI cJ cZ cS : ClassId} {b L : Nat} {xs : Nat → Int32} (hL : L ≤ 2048) (C0 : lw_At p s m meth c b L xs) (E : Ev p s m #[Value.ref b] c cL_law 4 RL D cI cJ cZ cS) {oe_A mo_A : Nat} :
    ∀ (n j : Nat), 4 * j ≤ L → L < 4 * j + n → ∀ (ws : va_W) (H : Heap) (locs : List Loc), ST cI cJ cZ cS oe_A mo_A ws → va_P D vwCl ws H → va_D (fun q : Nat => s.heap.size ≤ q) ws → va_S (fun q : Nat => s.heap.size ≤ q) s.heap H locs → ∀ (ls : Array Slot), lv_has ls 4 [(0, .ref b), (1, .ref oe_A), (2, .ref mo_A), (3, .int (nI (4 * j)))] → W p l e room_1 s m #[Value.ref b] below meth c H locs (36 + 11 * j) (1265 + 214 * j) (lw_Z below #[Value.ref b] s) (F0 m 18 ls []) := by
  obtain ⟨hx, hb, hr, hml, hown, hts, hX, hbl, hlocks, hgv⟩ := C0
  have hbA : ¬ (fun q : Nat => s.heap.size ≤ q) b := Nat.not_le.mpr hbl
  intro n
  induction n with
  | zero =>
    intro j h1 h2
    exact absurd h2 (by omega)
  | succ n ih =>
    intro j h1 h2 ws H locs hs hP hD hS ls hl
    refine lv_iload_n (pc := 18) hx hb dL_law_18 rfl (lv_at hl 3 rfl) ?_
    refine lv_aload_n (pc := 19) hx hb dL_law_19 rfl (lv_at hl 0 rfl) ?_
    refine va_slen (pc := 20) hx hb hX hbl hbA hS dL_law_20 ?_
    refine lv_iconst (pc := 21) (v := (4 : Int32)) hx hb dL_law_21 (by decide) ?_
    refine lv_isub (pc := 22) hx hb dL_law_22 ?_
    refine lv_icmp_gt (pc := 23) (tgt := 976) hx hb dL_law_23 (by decide) (fun _ => ?_) (fun hng => ?_)
    · refine lv_iconst (pc := 976) (v := (1 : Int32)) hx hb dL_law_976 (by decide) ?_
      refine va_forget (fun q hq => hS.2.2 q hq) ?_
      refine W.widen (k := 600000) (n := 7302250) (by omega) (by omega) ?_
      exact lw_ret hx hb hr hlocks dL_law_977
    · have hng : ¬ nI L - nI 4 < nI (4 * j) := hng
      have hi : 4 * j + 3 < L := by
        rcases Nat.lt_or_ge L 4 with h | h
        · exact absurd (fa_trans (pk_sneg (by omega) h) (nI_pos' (by omega))) hng
        · rw [pk_sub h] at hng
          rcases Nat.lt_or_ge (L - 4) (4 * j) with h3 | h3
          · exact absurd (nI_lt h3 (by omega)) hng
          · omega
      refine lv_aload_n (pc := 26) hx hb dL_law_26 rfl (lv_at hl 0 rfl) ?_
      refine lv_iload_n (pc := 27) hx hb dL_law_27 rfl (lv_at hl 3 rfl) ?_
      refine va_sld (pc := 28) hx hb hX hbl hbA hS (vp_in_nI (show 4 * j < L by omega) (by omega)) dL_law_28 ?_
      refine lv_bipush (pc := 29) (v := (31 : Int32)) hx hb dL_law_29 (by decide) ?_
      refine lv_iand (pc := 31) hx hb dL_law_31 ?_
      obtain ⟨t, ht, he⟩ := pk_andE (xs (nI (4 * j)).toNatClampNeg) (m := (31 : Int32)) 5 (by decide)
      rw [he]
      have hc : 36 + 11 * j + 11 ≤ 600000 ∧ 1265 + 214 * j + 214 ≤ 7302250 := by omega
      have kk : ∀ (ws' : va_W) (H' : Heap) (locs' : List Loc), ST cI cJ cZ cS oe_A mo_A ws' → va_P D vwCl ws' H' → va_D (fun q : Nat => s.heap.size ≤ q) ws' → va_S (fun q : Nat => s.heap.size ≤ q) s.heap H' locs' → W p l e room_1 s m #[Value.ref b] below meth c H' locs' (36 + 11 * j + 11) (1265 + 214 * j + 214) (lw_Z below #[Value.ref b] s) (F0 m 970 ls []) := by
        intro ws' H' locs' hs hP hD hS
        refine lv_iinc (pc := 970) (v := nI (4 * (j + 1))) (lv' := [(3, .int (nI (4 * (j + 1)))), (0, .ref b), (1, .ref oe_A), (2, .ref mo_A)]) hx hb dL_law_970 hl (k := 3) rfl (by rw [show Int32.ofInt 4 = nI 4 from rfl, nI_add]; rfl) (by decide) rfl (fun ls hl => ?_)
        refine lv_goto (pc := 973) (tgt := 18) hx hb dL_law_973 (by decide) ?_
        exact ih (j + 1) (by omega) (by omega) ws' H' locs' hs hP hD hS ls (lv_sub hl [1, 2, 3, 0] rfl)
      rcases (show t = 0 ∨ t = 1 ∨ t = 2 ∨ t = 3 ∨ t = 4 ∨ t = 5 ∨ t = 6 ∨ t = 7 ∨ t = 8 ∨ t = 9 ∨ t = 10 ∨ t = 11 ∨ t = 12 ∨ t = 13 ∨ t = 14 ∨ t = 15 ∨ t = 16 ∨ t = 17 ∨ t = 18 ∨ t = 19 ∨ t = 20 ∨ t = 21 ∨ t = 22 ∨ t = 23 ∨ t = 24 ∨ t = 25 ∨ t = 26 ∨ t = 27 ∨ t = 28 ∨ t = 29 ∨ t = 30 ∨ t = 31 by omega) with rfl | rfl | rfl | rfl | rfl | rfl | rfl | rfl | rfl | rfl | rfl | rfl | rfl | rfl | rfl | rfl | rfl | rfl | rfl | rfl | rfl | rfl | rfl | rfl | rfl | rfl | rfl | rfl | rfl | rfl | rfl | rfl
      · refine lv_tableIn (pc := 32) (tgt := 168) hx hb dL_law_32 (by decide) (by decide) (off := 136) (by decide) (by decide) ?_
        exact lo_people E hX hbl hi hL hl hs hP hD hS hc kk
      · refine lv_tableIn (pc := 32) (tgt := 191) hx hb dL_law_32 (by decide) (by decide) (off := 159) (by decide) (by decide) ?_
        exact lo_bride E hX hbl hi hL hl hs hP hD hS hc kk
      · refine lv_tableIn (pc := 32) (tgt := 214) hx hb dL_law_32 (by decide) (by decide) (off := 182) (by decide) (by decide) ?_
        exact lo_say E hX hbl hi hL hl hs hP hD hS hc kk
      · refine lv_tableIn (pc := 32) (tgt := 237) hx hb dL_law_32 (by decide) (by decide) (off := 205) (by decide) (by decide) ?_
        exact lo_wipe E hX hbl hi hL hl hs hP hD hS hc kk
      · refine lv_tableIn (pc := 32) (tgt := 250) hx hb dL_law_32 (by decide) (by decide) (off := 218) (by decide) (by decide) ?_
        exact lo_fault E hX hbl hi hL hl hs hP hD hS hc kk
      · refine lv_tableIn (pc := 32) (tgt := 273) hx hb dL_law_32 (by decide) (by decide) (off := 241) (by decide) (by decide) ?_
        exact lo_shot E hX hbl hi hL hl hs hP hD hS hc kk
      · refine lv_tableIn (pc := 32) (tgt := 286) hx hb dL_law_32 (by decide) (by decide) (off := 254) (by decide) (by decide) ?_
        exact lo_look E hX hbl hi hL hl hs hP hD hS hc kk
      · refine lv_tableIn (pc := 32) (tgt := 319) hx hb dL_law_32 (by decide) (by decide) (off := 287) (by decide) (by decide) ?_
        exact lo_single E hX hbl hi hL hl hs hP hD hS hc kk
      · refine lv_tableIn (pc := 32) (tgt := 342) hx hb dL_law_32 (by decide) (by decide) (off := 310) (by decide) (by decide) ?_
        exact lo_cover E hX hbl hi hL hl hs hP hD hS hc kk
      · refine lv_tableIn (pc := 32) (tgt := 355) hx hb dL_law_32 (by decide) (by decide) (off := 323) (by decide) (by decide) ?_
        exact lo_spoils E hX hbl hi hL hl hs hP hD hS hc kk
      · refine lv_tableIn (pc := 32) (tgt := 378) hx hb dL_law_32 (by decide) (by decide) (off := 346) (by decide) (by decide) ?_
        exact lo_hands E hX hbl hi hL hl hs hP hD hS hc kk
      · refine lv_tableIn (pc := 32) (tgt := 401) hx hb dL_law_32 (by decide) (by decide) (off := 369) (by decide) (by decide) ?_
        exact lo_heads E hX hbl hi hL hl hs hP hD hS hc kk
      · refine lv_tableIn (pc := 32) (tgt := 424) hx hb dL_law_32 (by decide) (by decide) (off := 392) (by decide) (by decide) ?_
        exact lo_left E hX hbl hi hL hl hs hP hD hS hc kk
      · refine lv_tableIn (pc := 32) (tgt := 437) hx hb dL_law_32 (by decide) (by decide) (off := 405) (by decide) (by decide) ?_
        exact lo_blink E hX hbl hi hL hl hs hP hD hS hc kk
      · refine lv_tableIn (pc := 32) (tgt := 480) hx hb dL_law_32 (by decide) (by decide) (off := 448) (by decide) (by decide) ?_
        exact lo_flash E hX hbl hi hL hl hs hP hD hS hc kk
      · refine lv_tableIn (pc := 32) (tgt := 503) hx hb dL_law_32 (by decide) (by decide) (off := 471) (by decide) (by decide) ?_
        exact lo_open E hX hbl hi hL hl hs hP hD hS hc kk
      · refine lv_tableIn (pc := 32) (tgt := 526) hx hb dL_law_32 (by decide) (by decide) (off := 494) (by decide) (by decide) ?_
        exact lo_fire E hX hbl hi hL hl hs hP hD hS hc kk
      · refine lv_tableIn (pc := 32) (tgt := 569) hx hb dL_law_32 (by decide) (by decide) (off := 537) (by decide) (by decide) ?_
        exact lo_bad E hX hbl hi hL hl hs hP hD hS hc kk
      · refine lv_tableIn (pc := 32) (tgt := 602) hx hb dL_law_32 (by decide) (by decide) (off := 570) (by decide) (by decide) ?_
        exact lo_likely E hX hbl hi hL hl hs hP hD hS hc kk
      · refine lv_tableIn (pc := 32) (tgt := 636) hx hb dL_law_32 (by decide) (by decide) (off := 604) (by decide) (by decide) ?_
        exact lo_one E hX hbl hi hL hl hs hP hD hS hc kk
      · refine lv_tableIn (pc := 32) (tgt := 670) hx hb dL_law_32 (by decide) (by decide) (off := 638) (by decide) (by decide) ?_
        exact lo_many E hX hbl hi hL hl hs hP hD hS hc kk
      · refine lv_tableIn (pc := 32) (tgt := 703) hx hb dL_law_32 (by decide) (by decide) (off := 671) (by decide) (by decide) ?_
        exact lo_shoot E hX hbl hi hL hl hs hP hD hS hc kk
      · refine lv_tableIn (pc := 32) (tgt := 746) hx hb dL_law_32 (by decide) (by decide) (off := 714) (by decide) (by decide) ?_
        exact lo_stair E hX hbl hi hL hl hs hP hD hS hc kk
      · refine lv_tableIn (pc := 32) (tgt := 779) hx hb dL_law_32 (by decide) (by decide) (off := 747) (by decide) (by decide) ?_
        exact lo_tall E hX hbl hi hL hl hs hP hD hS hc kk
      · refine lv_tableIn (pc := 32) (tgt := 812) hx hb dL_law_32 (by decide) (by decide) (off := 780) (by decide) (by decide) ?_
        exact lo_pair E hX hbl hi hL hl hs hP hD hS hc kk
      · refine lv_tableIn (pc := 32) (tgt := 855) hx hb dL_law_32 (by decide) (by decide) (off := 823) (by decide) (by decide) ?_
        exact lo_judge E hX hbl hi hL hl hs hP hD hS hc kk
      · refine lv_tableIn (pc := 32) (tgt := 878) hx hb dL_law_32 (by decide) (by decide) (off := 846) (by decide) (by decide) ?_
        exact lo_placed E hX hbl hi hL hl hs hP hD hS hc kk
      · refine lv_tableIn (pc := 32) (tgt := 901) hx hb dL_law_32 (by decide) (by decide) (off := 869) (by decide) (by decide) ?_
        exact lo_image E hX hbl hi hL hl hs hP hD hS hc kk
      · refine lv_tableIn (pc := 32) (tgt := 924) hx hb dL_law_32 (by decide) (by decide) (off := 892) (by decide) (by decide) ?_
        exact lo_restore E hX hbl hi hL hl hs hP hD hS hc kk
      · refine lv_tableIn (pc := 32) (tgt := 947) hx hb dL_law_32 (by decide) (by decide) (off := 915) (by decide) (by decide) ?_
        exact lo_told E hX hbl hi hL hl hs hP hD hS hc kk
      · refine lv_tableOut (pc := 32) (tgt := 970) hx hb dL_law_32 (by decide) (by decide) ?_
        refine W.widen (k := 36 + 11 * j + 11) (n := 1265 + 214 * j + 214) (by omega) (by omega) ?_
        exact kk ws H locs hs hP hD hS
      · refine lv_tableOut (pc := 32) (tgt := 970) hx hb dL_law_32 (by decide) (by decide) ?_
        refine W.widen (k := 36 + 11 * j + 11) (n := 1265 + 214 * j + 214) (by omega) (by omega) ?_
        exact kk ws H locs hs hP hD hS
