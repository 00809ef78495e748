theorem F_J6_bitCount_0f7a4 : CalF yJ6_bitCount_0f7a4 cJ6_bitCount_0f7a4 1 (some .int) 1 := ⟨tw_339, tw_12, by decide +kernel⟩
set_option maxRecDepth 100000 in
set_option maxHeartbeats 4000000 in
theorem c_J6_bitCount_0f7a4 (l : Launch) (D : va_G) (cI cJ cZ cS : ClassId) (p1 : Int32) (r : Int32) (hf : f_J6_bitCount_0f7a4 p1 = some r) : RoC l D cI cJ cZ cS yJ6_bitCount_0f7a4 cJ6_bitCount_0f7a4 1 (some .int) 0 0 [] [.int p1] (some (.int r)) := by
  refine ro_in_i (own := RJ6) (by decide +kernel) rfl (Nat.le_of_ble_eq_true rfl) ?_
  intro p e s m args below meth c ls Q E hQ hP hl
  obtain ⟨hx, hb, hml, hown, hts, hK, hN, hAO⟩ := id E
  have hl : lv_has ls 1 [(0, .int p1)] := hl
  unfold f_J6_bitCount_0f7a4 at hf
  refine lv_iload_n (pc := 0) hx hb dJ6_bitCount_0f7a4_0 rfl (lv_at hl 0 rfl) ?_
  refine lv_iload_n (pc := 1) hx hb dJ6_bitCount_0f7a4_1 rfl (lv_at hl 0 rfl) ?_
  refine lv_iconst (pc := 2) (v := (1 : Int32)) hx hb dJ6_bitCount_0f7a4_2 (by decide) ?_
  refine lv_iushr (pc := 3) (v := ((Int32.toUInt32 p1 >>> (Int32.toUInt32 (1 : Int32) &&& Int32.toUInt32 31)).toInt32)) hx hb dJ6_bitCount_0f7a4_3 rfl ?_
  refine lv_ldcw (pc := 4) hx hb hown (hts _ tw_340) dJ6_bitCount_0f7a4_4 ?_
  refine lv_iand (pc := 7) hx hb dJ6_bitCount_0f7a4_7 ?_
  refine lv_isub (pc := 8) hx hb dJ6_bitCount_0f7a4_8 ?_
  refine lv_istore_n (pc := 9) (lv' := [(0, .int (p1 - (((Int32.toUInt32 p1 >>> (Int32.toUInt32 (1 : Int32) &&& Int32.toUInt32 31)).toInt32) &&& (1431655765 : Int32))))]) hx hb dJ6_bitCount_0f7a4_9 rfl hl (by decide) rfl (fun ls hl => ?_)
  refine lv_iload_n (pc := 10) hx hb dJ6_bitCount_0f7a4_10 rfl (lv_at hl 0 rfl) ?_
  refine lv_ldcw (pc := 11) hx hb hown (hts _ tw_341) dJ6_bitCount_0f7a4_11 ?_
  refine lv_iand (pc := 14) hx hb dJ6_bitCount_0f7a4_14 ?_
  refine lv_iload_n (pc := 15) hx hb dJ6_bitCount_0f7a4_15 rfl (lv_at hl 0 rfl) ?_
  refine lv_iconst (pc := 16) (v := (2 : Int32)) hx hb dJ6_bitCount_0f7a4_16 (by decide) ?_
  refine lv_iushr (pc := 17) (v := ((Int32.toUInt32 (p1 - (((Int32.toUInt32 p1 >>> (Int32.toUInt32 (1 : Int32) &&& Int32.toUInt32 31)).toInt32) &&& (1431655765 : Int32))) >>> (Int32.toUInt32 (2 : Int32) &&& Int32.toUInt32 31)).toInt32)) hx hb dJ6_bitCount_0f7a4_17 rfl ?_
  refine lv_ldcw (pc := 18) hx hb hown (hts _ tw_341) dJ6_bitCount_0f7a4_18 ?_
  refine lv_iand (pc := 21) hx hb dJ6_bitCount_0f7a4_21 ?_
  refine lv_iadd (pc := 22) hx hb dJ6_bitCount_0f7a4_22 ?_
  refine lv_istore_n (pc := 23) (lv' := [(0, .int (((p1 - (((Int32.toUInt32 p1 >>> (Int32.toUInt32 (1 : Int32) &&& Int32.toUInt32 31)).toInt32) &&& (1431655765 : Int32))) &&& (858993459 : Int32)) + (((Int32.toUInt32 (p1 - (((Int32.toUInt32 p1 >>> (Int32.toUInt32 (1 : Int32) &&& Int32.toUInt32 31)).toInt32) &&& (1431655765 : Int32))) >>> (Int32.toUInt32 (2 : Int32) &&& Int32.toUInt32 31)).toInt32) &&& (858993459 : Int32))))]) hx hb dJ6_bitCount_0f7a4_23 rfl hl (by decide) rfl (fun ls hl => ?_)
  refine lv_iload_n (pc := 24) hx hb dJ6_bitCount_0f7a4_24 rfl (lv_at hl 0 rfl) ?_
  refine lv_iload_n (pc := 25) hx hb dJ6_bitCount_0f7a4_25 rfl (lv_at hl 0 rfl) ?_
  refine lv_iconst (pc := 26) (v := (4 : Int32)) hx hb dJ6_bitCount_0f7a4_26 (by decide) ?_
  refine lv_iushr (pc := 27) (v := ((Int32.toUInt32 (((p1 - (((Int32.toUInt32 p1 >>> (Int32.toUInt32 (1 : Int32) &&& Int32.toUInt32 31)).toInt32) &&& (1431655765 : Int32))) &&& (858993459 : Int32)) + (((Int32.toUInt32 (p1 - (((Int32.toUInt32 p1 >>> (Int32.toUInt32 (1 : Int32) &&& Int32.toUInt32 31)).toInt32) &&& (1431655765 : Int32))) >>> (Int32.toUInt32 (2 : Int32) &&& Int32.toUInt32 31)).toInt32) &&& (858993459 : Int32))) >>> (Int32.toUInt32 (4 : Int32) &&& Int32.toUInt32 31)).toInt32)) hx hb dJ6_bitCount_0f7a4_27 rfl ?_
  refine lv_iadd (pc := 28) hx hb dJ6_bitCount_0f7a4_28 ?_
  refine lv_ldcw (pc := 29) hx hb hown (hts _ tw_342) dJ6_bitCount_0f7a4_29 ?_
  refine lv_iand (pc := 32) hx hb dJ6_bitCount_0f7a4_32 ?_
  refine lv_istore_n (pc := 33) (lv' := [(0, .int (((((p1 - (((Int32.toUInt32 p1 >>> (Int32.toUInt32 (1 : Int32) &&& Int32.toUInt32 31)).toInt32) &&& (1431655765 : Int32))) &&& (858993459 : Int32)) + (((Int32.toUInt32 (p1 - (((Int32.toUInt32 p1 >>> (Int32.toUInt32 (1 : Int32) &&& Int32.toUInt32 31)).toInt32) &&& (1431655765 : Int32))) >>> (Int32.toUInt32 (2 : Int32) &&& Int32.toUInt32 31)).toInt32) &&& (858993459 : Int32))) + ((Int32.toUInt32 (((p1 - (((Int32.toUInt32 p1 >>> (Int32.toUInt32 (1 : Int32) &&& Int32.toUInt32 31)).toInt32) &&& (1431655765 : Int32))) &&& (858993459 : Int32)) + (((Int32.toUInt32 (p1 - (((Int32.toUInt32 p1 >>> (Int32.toUInt32 (1 : Int32) &&& Int32.toUInt32 31)).toInt32) &&& (1431655765 : Int32))) >>> (Int32.toUInt32 (2 : Int32) &&& Int32.toUInt32 31)).toInt32) &&& (858993459 : Int32))) >>> (Int32.toUInt32 (4 : Int32) &&& Int32.toUInt32 31)).toInt32)) &&& (252645135 : Int32)))]) hx hb dJ6_bitCount_0f7a4_33 rfl hl (by decide) rfl (fun ls hl => ?_)
  refine lv_iload_n (pc := 34) hx hb dJ6_bitCount_0f7a4_34 rfl (lv_at hl 0 rfl) ?_
  refine lv_iload_n (pc := 35) hx hb dJ6_bitCount_0f7a4_35 rfl (lv_at hl 0 rfl) ?_
  refine lv_bipush (pc := 36) (v := (8 : Int32)) hx hb dJ6_bitCount_0f7a4_36 (by decide) ?_
  refine lv_iushr (pc := 38) (v := ((Int32.toUInt32 (((((p1 - (((Int32.toUInt32 p1 >>> (Int32.toUInt32 (1 : Int32) &&& Int32.toUInt32 31)).toInt32) &&& (1431655765 : Int32))) &&& (858993459 : Int32)) + (((Int32.toUInt32 (p1 - (((Int32.toUInt32 p1 >>> (Int32.toUInt32 (1 : Int32) &&& Int32.toUInt32 31)).toInt32) &&& (1431655765 : Int32))) >>> (Int32.toUInt32 (2 : Int32) &&& Int32.toUInt32 31)).toInt32) &&& (858993459 : Int32))) + ((Int32.toUInt32 (((p1 - (((Int32.toUInt32 p1 >>> (Int32.toUInt32 (1 : Int32) &&& Int32.toUInt32 31)).toInt32) &&& (1431655765 : Int32))) &&& (858993459 : Int32)) + (((Int32.toUInt32 (p1 - (((Int32.toUInt32 p1 >>> (Int32.toUInt32 (1 : Int32) &&& Int32.toUInt32 31)).toInt32) &&& (1431655765 : Int32))) >>> (Int32.toUInt32 (2 : Int32) &&& Int32.toUInt32 31)).toInt32) &&& (858993459 : Int32))) >>> (Int32.toUInt32 (4 : Int32) &&& Int32.toUInt32 31)).toInt32)) &&& (252645135 : Int32)) >>> (Int32.toUInt32 (8 : Int32) &&& Int32.toUInt32 31)).toInt32)) hx hb dJ6_bitCount_0f7a4_38 rfl ?_
  refine lv_iadd (pc := 39) hx hb dJ6_bitCount_0f7a4_39 ?_
  refine lv_istore_n (pc := 40) (lv' := [(0, .int ((((((p1 - (((Int32.toUInt32 p1 >>> (Int32.toUInt32 (1 : Int32) &&& Int32.toUInt32 31)).toInt32) &&& (1431655765 : Int32))) &&& (858993459 : Int32)) + (((Int32.toUInt32 (p1 - (((Int32.toUInt32 p1 >>> (Int32.toUInt32 (1 : Int32) &&& Int32.toUInt32 31)).toInt32) &&& (1431655765 : Int32))) >>> (Int32.toUInt32 (2 : Int32) &&& Int32.toUInt32 31)).toInt32) &&& (858993459 : Int32))) + ((Int32.toUInt32 (((p1 - (((Int32.toUInt32 p1 >>> (Int32.toUInt32 (1 : Int32) &&& Int32.toUInt32 31)).toInt32) &&& (1431655765 : Int32))) &&& (858993459 : Int32)) + (((Int32.toUInt32 (p1 - (((Int32.toUInt32 p1 >>> (Int32.toUInt32 (1 : Int32) &&& Int32.toUInt32 31)).toInt32) &&& (1431655765 : Int32))) >>> (Int32.toUInt32 (2 : Int32) &&& Int32.toUInt32 31)).toInt32) &&& (858993459 : Int32))) >>> (Int32.toUInt32 (4 : Int32) &&& Int32.toUInt32 31)).toInt32)) &&& (252645135 : Int32)) + ((Int32.toUInt32 (((((p1 - (((Int32.toUInt32 p1 >>> (Int32.toUInt32 (1 : Int32) &&& Int32.toUInt32 31)).toInt32) &&& (1431655765 : Int32))) &&& (858993459 : Int32)) + (((Int32.toUInt32 (p1 - (((Int32.toUInt32 p1 >>> (Int32.toUInt32 (1 : Int32) &&& Int32.toUInt32 31)).toInt32) &&& (1431655765 : Int32))) >>> (Int32.toUInt32 (2 : Int32) &&& Int32.toUInt32 31)).toInt32) &&& (858993459 : Int32))) + ((Int32.toUInt32 (((p1 - (((Int32.toUInt32 p1 >>> (Int32.toUInt32 (1 : Int32) &&& Int32.toUInt32 31)).toInt32) &&& (1431655765 : Int32))) &&& (858993459 : Int32)) + (((Int32.toUInt32 (p1 - (((Int32.toUInt32 p1 >>> (Int32.toUInt32 (1 : Int32) &&& Int32.toUInt32 31)).toInt32) &&& (1431655765 : Int32))) >>> (Int32.toUInt32 (2 : Int32) &&& Int32.toUInt32 31)).toInt32) &&& (858993459 : Int32))) >>> (Int32.toUInt32 (4 : Int32) &&& Int32.toUInt32 31)).toInt32)) &&& (252645135 : Int32)) >>> (Int32.toUInt32 (8 : Int32) &&& Int32.toUInt32 31)).toInt32)))]) hx hb dJ6_bitCount_0f7a4_40 rfl hl (by decide) rfl (fun ls hl => ?_)
  refine lv_iload_n (pc := 41) hx hb dJ6_bitCount_0f7a4_41 rfl (lv_at hl 0 rfl) ?_
  refine lv_iload_n (pc := 42) hx hb dJ6_bitCount_0f7a4_42 rfl (lv_at hl 0 rfl) ?_
  refine lv_bipush (pc := 43) (v := (16 : Int32)) hx hb dJ6_bitCount_0f7a4_43 (by decide) ?_
  refine lv_iushr (pc := 45) (v := ((Int32.toUInt32 ((((((p1 - (((Int32.toUInt32 p1 >>> (Int32.toUInt32 (1 : Int32) &&& Int32.toUInt32 31)).toInt32) &&& (1431655765 : Int32))) &&& (858993459 : Int32)) + (((Int32.toUInt32 (p1 - (((Int32.toUInt32 p1 >>> (Int32.toUInt32 (1 : Int32) &&& Int32.toUInt32 31)).toInt32) &&& (1431655765 : Int32))) >>> (Int32.toUInt32 (2 : Int32) &&& Int32.toUInt32 31)).toInt32) &&& (858993459 : Int32))) + ((Int32.toUInt32 (((p1 - (((Int32.toUInt32 p1 >>> (Int32.toUInt32 (1 : Int32) &&& Int32.toUInt32 31)).toInt32) &&& (1431655765 : Int32))) &&& (858993459 : Int32)) + (((Int32.toUInt32 (p1 - (((Int32.toUInt32 p1 >>> (Int32.toUInt32 (1 : Int32) &&& Int32.toUInt32 31)).toInt32) &&& (1431655765 : Int32))) >>> (Int32.toUInt32 (2 : Int32) &&& Int32.toUInt32 31)).toInt32) &&& (858993459 : Int32))) >>> (Int32.toUInt32 (4 : Int32) &&& Int32.toUInt32 31)).toInt32)) &&& (252645135 : Int32)) + ((Int32.toUInt32 (((((p1 - (((Int32.toUInt32 p1 >>> (Int32.toUInt32 (1 : Int32) &&& Int32.toUInt32 31)).toInt32) &&& (1431655765 : Int32))) &&& (858993459 : Int32)) + (((Int32.toUInt32 (p1 - (((Int32.toUInt32 p1 >>> (Int32.toUInt32 (1 : Int32) &&& Int32.toUInt32 31)).toInt32) &&& (1431655765 : Int32))) >>> (Int32.toUInt32 (2 : Int32) &&& Int32.toUInt32 31)).toInt32) &&& (858993459 : Int32))) + ((Int32.toUInt32 (((p1 - (((Int32.toUInt32 p1 >>> (Int32.toUInt32 (1 : Int32) &&& Int32.toUInt32 31)).toInt32) &&& (1431655765 : Int32))) &&& (858993459 : Int32)) + (((Int32.toUInt32 (p1 - (((Int32.toUInt32 p1 >>> (Int32.toUInt32 (1 : Int32) &&& Int32.toUInt32 31)).toInt32) &&& (1431655765 : Int32))) >>> (Int32.toUInt32 (2 : Int32) &&& Int32.toUInt32 31)).toInt32) &&& (858993459 : Int32))) >>> (Int32.toUInt32 (4 : Int32) &&& Int32.toUInt32 31)).toInt32)) &&& (252645135 : Int32)) >>> (Int32.toUInt32 (8 : Int32) &&& Int32.toUInt32 31)).toInt32)) >>> (Int32.toUInt32 (16 : Int32) &&& Int32.toUInt32 31)).toInt32)) hx hb dJ6_bitCount_0f7a4_45 rfl ?_
  refine lv_iadd (pc := 46) hx hb dJ6_bitCount_0f7a4_46 ?_
  refine lv_istore_n (pc := 47) (lv' := [(0, .int (((((((p1 - (((Int32.toUInt32 p1 >>> (Int32.toUInt32 (1 : Int32) &&& Int32.toUInt32 31)).toInt32) &&& (1431655765 : Int32))) &&& (858993459 : Int32)) + (((Int32.toUInt32 (p1 - (((Int32.toUInt32 p1 >>> (Int32.toUInt32 (1 : Int32) &&& Int32.toUInt32 31)).toInt32) &&& (1431655765 : Int32))) >>> (Int32.toUInt32 (2 : Int32) &&& Int32.toUInt32 31)).toInt32) &&& (858993459 : Int32))) + ((Int32.toUInt32 (((p1 - (((Int32.toUInt32 p1 >>> (Int32.toUInt32 (1 : Int32) &&& Int32.toUInt32 31)).toInt32) &&& (1431655765 : Int32))) &&& (858993459 : Int32)) + (((Int32.toUInt32 (p1 - (((Int32.toUInt32 p1 >>> (Int32.toUInt32 (1 : Int32) &&& Int32.toUInt32 31)).toInt32) &&& (1431655765 : Int32))) >>> (Int32.toUInt32 (2 : Int32) &&& Int32.toUInt32 31)).toInt32) &&& (858993459 : Int32))) >>> (Int32.toUInt32 (4 : Int32) &&& Int32.toUInt32 31)).toInt32)) &&& (252645135 : Int32)) + ((Int32.toUInt32 (((((p1 - (((Int32.toUInt32 p1 >>> (Int32.toUInt32 (1 : Int32) &&& Int32.toUInt32 31)).toInt32) &&& (1431655765 : Int32))) &&& (858993459 : Int32)) + (((Int32.toUInt32 (p1 - (((Int32.toUInt32 p1 >>> (Int32.toUInt32 (1 : Int32) &&& Int32.toUInt32 31)).toInt32) &&& (1431655765 : Int32))) >>> (Int32.toUInt32 (2 : Int32) &&& Int32.toUInt32 31)).toInt32) &&& (858993459 : Int32))) + ((Int32.toUInt32 (((p1 - (((Int32.toUInt32 p1 >>> (Int32.toUInt32 (1 : Int32) &&& Int32.toUInt32 31)).toInt32) &&& (1431655765 : Int32))) &&& (858993459 : Int32)) + (((Int32.toUInt32 (p1 - (((Int32.toUInt32 p1 >>> (Int32.toUInt32 (1 : Int32) &&& Int32.toUInt32 31)).toInt32) &&& (1431655765 : Int32))) >>> (Int32.toUInt32 (2 : Int32) &&& Int32.toUInt32 31)).toInt32) &&& (858993459 : Int32))) >>> (Int32.toUInt32 (4 : Int32) &&& Int32.toUInt32 31)).toInt32)) &&& (252645135 : Int32)) >>> (Int32.toUInt32 (8 : Int32) &&& Int32.toUInt32 31)).toInt32)) + ((Int32.toUInt32 ((((((p1 - (((Int32.toUInt32 p1 >>> (Int32.toUInt32 (1 : Int32) &&& Int32.toUInt32 31)).toInt32) &&& (1431655765 : Int32))) &&& (858993459 : Int32)) + (((Int32.toUInt32 (p1 - (((Int32.toUInt32 p1 >>> (Int32.toUInt32 (1 : Int32) &&& Int32.toUInt32 31)).toInt32) &&& (1431655765 : Int32))) >>> (Int32.toUInt32 (2 : Int32) &&& Int32.toUInt32 31)).toInt32) &&& (858993459 : Int32))) + ((Int32.toUInt32 (((p1 - (((Int32.toUInt32 p1 >>> (Int32.toUInt32 (1 : Int32) &&& Int32.toUInt32 31)).toInt32) &&& (1431655765 : Int32))) &&& (858993459 : Int32)) + (((Int32.toUInt32 (p1 - (((Int32.toUInt32 p1 >>> (Int32.toUInt32 (1 : Int32) &&& Int32.toUInt32 31)).toInt32) &&& (1431655765 : Int32))) >>> (Int32.toUInt32 (2 : Int32) &&& Int32.toUInt32 31)).toInt32) &&& (858993459 : Int32))) >>> (Int32.toUInt32 (4 : Int32) &&& Int32.toUInt32 31)).toInt32)) &&& (252645135 : Int32)) + ((Int32.toUInt32 (((((p1 - (((Int32.toUInt32 p1 >>> (Int32.toUInt32 (1 : Int32) &&& Int32.toUInt32 31)).toInt32) &&& (1431655765 : Int32))) &&& (858993459 : Int32)) + (((Int32.toUInt32 (p1 - (((Int32.toUInt32 p1 >>> (Int32.toUInt32 (1 : Int32) &&& Int32.toUInt32 31)).toInt32) &&& (1431655765 : Int32))) >>> (Int32.toUInt32 (2 : Int32) &&& Int32.toUInt32 31)).toInt32) &&& (858993459 : Int32))) + ((Int32.toUInt32 (((p1 - (((Int32.toUInt32 p1 >>> (Int32.toUInt32 (1 : Int32) &&& Int32.toUInt32 31)).toInt32) &&& (1431655765 : Int32))) &&& (858993459 : Int32)) + (((Int32.toUInt32 (p1 - (((Int32.toUInt32 p1 >>> (Int32.toUInt32 (1 : Int32) &&& Int32.toUInt32 31)).toInt32) &&& (1431655765 : Int32))) >>> (Int32.toUInt32 (2 : Int32) &&& Int32.toUInt32 31)).toInt32) &&& (858993459 : Int32))) >>> (Int32.toUInt32 (4 : Int32) &&& Int32.toUInt32 31)).toInt32)) &&& (252645135 : Int32)) >>> (Int32.toUInt32 (8 : Int32) &&& Int32.toUInt32 31)).toInt32)) >>> (Int32.toUInt32 (16 : Int32) &&& Int32.toUInt32 31)).toInt32)))]) hx hb dJ6_bitCount_0f7a4_47 rfl hl (by decide) rfl (fun ls hl => ?_)
  refine lv_iload_n (pc := 48) hx hb dJ6_bitCount_0f7a4_48 rfl (lv_at hl 0 rfl) ?_
  refine lv_bipush (pc := 49) (v := (63 : Int32)) hx hb dJ6_bitCount_0f7a4_49 (by decide) ?_
  refine lv_iand (pc := 51) hx hb dJ6_bitCount_0f7a4_51 ?_
  exact hQ _ _ _ dJ6_bitCount_0f7a4_52 hf
theorem F_J6_numberOfTrailingZeros_0f7a4 : CalF yJ6_numberOfTrailingZeros_0f7a4 cJ6_numberOfTrailingZeros_0f7a4 2 (some .int) 1 := ⟨tw_547, tw_12, by decide +kernel⟩
set_option maxRecDepth 100000 in
set_option maxHeartbeats 4000000 in
theorem c_J6_numberOfTrailingZeros_0f7a4 (l : Launch) (D : va_G) (cI cJ cZ cS : ClassId) (p1 : Int32) (r : Int32) (hf : f_J6_numberOfTrailingZeros_0f7a4 p1 = some r) : RoC l D cI cJ cZ cS yJ6_numberOfTrailingZeros_0f7a4 cJ6_numberOfTrailingZeros_0f7a4 2 (some .int) 0 0 [] [.int p1] (some (.int r)) := by
  refine ro_in_i (own := RJ6) (by decide +kernel) rfl (Nat.le_of_ble_eq_true rfl) ?_
  intro p e s m args below meth c ls Q E hQ hP hl
  obtain ⟨hx, hb, hml, hown, hts, hK, hN, hAO⟩ := id E
  have hl : lv_has ls 2 [(0, .int p1)] := hl
  unfold f_J6_numberOfTrailingZeros_0f7a4 at hf
  refine lv_iload_n (pc := 0) hx hb dJ6_numberOfTrailingZeros_0f7a4_0 rfl (lv_at hl 0 rfl) ?_
  refine lv_iconst (pc := 1) (v := (-1 : Int32)) hx hb dJ6_numberOfTrailingZeros_0f7a4_1 (by decide) ?_
  refine lv_ixor (pc := 2) hx hb dJ6_numberOfTrailingZeros_0f7a4_2 ?_
  refine lv_iload_n (pc := 3) hx hb dJ6_numberOfTrailingZeros_0f7a4_3 rfl (lv_at hl 0 rfl) ?_
  refine lv_iconst (pc := 4) (v := (1 : Int32)) hx hb dJ6_numberOfTrailingZeros_0f7a4_4 (by decide) ?_
  refine lv_isub (pc := 5) hx hb dJ6_numberOfTrailingZeros_0f7a4_5 ?_
  refine lv_iand (pc := 6) hx hb dJ6_numberOfTrailingZeros_0f7a4_6 ?_
  refine lv_istore_n (pc := 7) (lv' := [(0, .int ((p1 ^^^ (-1 : Int32)) &&& (p1 - (1 : Int32))))]) hx hb dJ6_numberOfTrailingZeros_0f7a4_7 rfl hl (by decide) rfl (fun ls hl => ?_)
  refine lv_iload_n (pc := 8) hx hb dJ6_numberOfTrailingZeros_0f7a4_8 rfl (lv_at hl 0 rfl) ?_
  refine r_if_gt (pc := 9) (tgt := 17) hx hb dJ6_numberOfTrailingZeros_0f7a4_9 (by decide) hf (fun hf => ?_) (fun hf => ?_)
  · refine lv_iconst (pc := 17) (v := (1 : Int32)) hx hb dJ6_numberOfTrailingZeros_0f7a4_17 (by decide) ?_
    refine lv_istore_n (pc := 18) (lv' := [(1, .int (1 : Int32)), (0, .int ((p1 ^^^ (-1 : Int32)) &&& (p1 - (1 : Int32))))]) hx hb dJ6_numberOfTrailingZeros_0f7a4_18 rfl hl (by decide) rfl (fun ls hl => ?_)
    refine lv_iload_n (pc := 19) hx hb dJ6_numberOfTrailingZeros_0f7a4_19 rfl (lv_at hl 1 rfl) ?_
    refine lv_ldcw (pc := 20) hx hb hown (hts _ tw_548) dJ6_numberOfTrailingZeros_0f7a4_20 ?_
    obtain ⟨k1, hk1, hf⟩ := lc2_e hf
    have K1 : ∀ (x2 : Int32) (x3 : Int32) (ls : Array Slot), k1 x2 x3 = some r → lv_has ls 2 [(0, .int x2), (1, .int x3)] → W p l e (roR 0 0) s m args below meth c s.heap [] 0 0 Q (F0 m 34 ls []) := by
      intro x2 x3 ls hf hl
      rw [hk1] at hf
      refine lv_iload_n (pc := 34) hx hb dJ6_numberOfTrailingZeros_0f7a4_34 rfl (lv_at hl 0 rfl) ?_
      refine lv_sipush (pc := 35) (v := (256 : Int32)) hx hb dJ6_numberOfTrailingZeros_0f7a4_35 (by decide) ?_
      obtain ⟨k4, hk4, hf⟩ := lc2_e hf
      have K4 : ∀ (x5 : Int32) (x6 : Int32) (ls : Array Slot), k4 x5 x6 = some r → lv_has ls 2 [(0, .int x5), (1, .int x6)] → W p l e (roR 0 0) s m args below meth c s.heap [] 0 0 Q (F0 m 49 ls []) := by
        intro x5 x6 ls hf hl
        rw [hk4] at hf
        refine lv_iload_n (pc := 49) hx hb dJ6_numberOfTrailingZeros_0f7a4_49 rfl (lv_at hl 0 rfl) ?_
        refine lv_bipush (pc := 50) (v := (16 : Int32)) hx hb dJ6_numberOfTrailingZeros_0f7a4_50 (by decide) ?_
        obtain ⟨k7, hk7, hf⟩ := lc2_e hf
        have K7 : ∀ (x8 : Int32) (x9 : Int32) (ls : Array Slot), k7 x8 x9 = some r → lv_has ls 2 [(0, .int x8), (1, .int x9)] → W p l e (roR 0 0) s m args below meth c s.heap [] 0 0 Q (F0 m 62 ls []) := by
          intro x8 x9 ls hf hl
          rw [hk7] at hf
          refine lv_iload_n (pc := 62) hx hb dJ6_numberOfTrailingZeros_0f7a4_62 rfl (lv_at hl 0 rfl) ?_
          refine lv_iconst (pc := 63) (v := (4 : Int32)) hx hb dJ6_numberOfTrailingZeros_0f7a4_63 (by decide) ?_
          obtain ⟨k10, hk10, hf⟩ := lc2_e hf
          have K10 : ∀ (x11 : Int32) (x12 : Int32) (ls : Array Slot), k10 x11 x12 = some r → lv_has ls 2 [(0, .int x11), (1, .int x12)] → W p l e (roR 0 0) s m args below meth c s.heap [] 0 0 Q (F0 m 74 ls []) := by
            intro x11 x12 ls hf hl
            rw [hk10] at hf
            refine lv_iload_n (pc := 74) hx hb dJ6_numberOfTrailingZeros_0f7a4_74 rfl (lv_at hl 1 rfl) ?_
            refine lv_iload_n (pc := 75) hx hb dJ6_numberOfTrailingZeros_0f7a4_75 rfl (lv_at hl 0 rfl) ?_
            refine lv_iconst (pc := 76) (v := (1 : Int32)) hx hb dJ6_numberOfTrailingZeros_0f7a4_76 (by decide) ?_
            refine lv_iushr (pc := 77) (v := ((Int32.toUInt32 x11 >>> (Int32.toUInt32 (1 : Int32) &&& Int32.toUInt32 31)).toInt32)) hx hb dJ6_numberOfTrailingZeros_0f7a4_77 rfl ?_
            refine lv_iadd (pc := 78) hx hb dJ6_numberOfTrailingZeros_0f7a4_78 ?_
            exact hQ _ _ _ dJ6_numberOfTrailingZeros_0f7a4_79 hf
          refine r_ic_le (pc := 64) (tgt := 74) hx hb dJ6_numberOfTrailingZeros_0f7a4_64 (by decide) hf (fun hf => ?_) (fun hf => ?_)
          · exact K10 _ _ _ hf hl
          · refine lv_iinc (pc := 67) (v := (x9 + (2 : Int32))) (lv' := [(1, .int (x9 + (2 : Int32))), (0, .int x8)]) hx hb dJ6_numberOfTrailingZeros_0f7a4_67 hl (k := 1) rfl (by rfl) (by decide) rfl (fun ls hl => ?_)
            refine lv_iload_n (pc := 70) hx hb dJ6_numberOfTrailingZeros_0f7a4_70 rfl (lv_at hl 1 rfl) ?_
            refine lv_iconst (pc := 71) (v := (2 : Int32)) hx hb dJ6_numberOfTrailingZeros_0f7a4_71 (by decide) ?_
            refine lv_iushr (pc := 72) (v := ((Int32.toUInt32 x8 >>> (Int32.toUInt32 (2 : Int32) &&& Int32.toUInt32 31)).toInt32)) hx hb dJ6_numberOfTrailingZeros_0f7a4_72 rfl ?_
            refine lv_istore_n (pc := 73) (lv' := [(0, .int ((Int32.toUInt32 x8 >>> (Int32.toUInt32 (2 : Int32) &&& Int32.toUInt32 31)).toInt32)), (1, .int (x9 + (2 : Int32)))]) hx hb dJ6_numberOfTrailingZeros_0f7a4_73 rfl hl (by decide) rfl (fun ls hl => ?_)
            exact K10 _ _ _ hf hl
        refine r_ic_le (pc := 52) (tgt := 62) hx hb dJ6_numberOfTrailingZeros_0f7a4_52 (by decide) hf (fun hf => ?_) (fun hf => ?_)
        · exact K7 _ _ _ hf hl
        · refine lv_iinc (pc := 55) (v := (x6 + (4 : Int32))) (lv' := [(1, .int (x6 + (4 : Int32))), (0, .int x5)]) hx hb dJ6_numberOfTrailingZeros_0f7a4_55 hl (k := 1) rfl (by rfl) (by decide) rfl (fun ls hl => ?_)
          refine lv_iload_n (pc := 58) hx hb dJ6_numberOfTrailingZeros_0f7a4_58 rfl (lv_at hl 1 rfl) ?_
          refine lv_iconst (pc := 59) (v := (4 : Int32)) hx hb dJ6_numberOfTrailingZeros_0f7a4_59 (by decide) ?_
          refine lv_iushr (pc := 60) (v := ((Int32.toUInt32 x5 >>> (Int32.toUInt32 (4 : Int32) &&& Int32.toUInt32 31)).toInt32)) hx hb dJ6_numberOfTrailingZeros_0f7a4_60 rfl ?_
          refine lv_istore_n (pc := 61) (lv' := [(0, .int ((Int32.toUInt32 x5 >>> (Int32.toUInt32 (4 : Int32) &&& Int32.toUInt32 31)).toInt32)), (1, .int (x6 + (4 : Int32)))]) hx hb dJ6_numberOfTrailingZeros_0f7a4_61 rfl hl (by decide) rfl (fun ls hl => ?_)
          exact K7 _ _ _ hf hl
      refine r_ic_le (pc := 38) (tgt := 49) hx hb dJ6_numberOfTrailingZeros_0f7a4_38 (by decide) hf (fun hf => ?_) (fun hf => ?_)
      · exact K4 _ _ _ hf hl
      · refine lv_iinc (pc := 41) (v := (x3 + (8 : Int32))) (lv' := [(1, .int (x3 + (8 : Int32))), (0, .int x2)]) hx hb dJ6_numberOfTrailingZeros_0f7a4_41 hl (k := 1) rfl (by rfl) (by decide) rfl (fun ls hl => ?_)
        refine lv_iload_n (pc := 44) hx hb dJ6_numberOfTrailingZeros_0f7a4_44 rfl (lv_at hl 1 rfl) ?_
        refine lv_bipush (pc := 45) (v := (8 : Int32)) hx hb dJ6_numberOfTrailingZeros_0f7a4_45 (by decide) ?_
        refine lv_iushr (pc := 47) (v := ((Int32.toUInt32 x2 >>> (Int32.toUInt32 (8 : Int32) &&& Int32.toUInt32 31)).toInt32)) hx hb dJ6_numberOfTrailingZeros_0f7a4_47 rfl ?_
        refine lv_istore_n (pc := 48) (lv' := [(0, .int ((Int32.toUInt32 x2 >>> (Int32.toUInt32 (8 : Int32) &&& Int32.toUInt32 31)).toInt32)), (1, .int (x3 + (8 : Int32)))]) hx hb dJ6_numberOfTrailingZeros_0f7a4_48 rfl hl (by decide) rfl (fun ls hl => ?_)
        exact K4 _ _ _ hf hl
    refine r_ic_le (pc := 23) (tgt := 34) hx hb dJ6_numberOfTrailingZeros_0f7a4_23 (by decide) hf (fun hf => ?_) (fun hf => ?_)
    · exact K1 _ _ _ hf (lv_sub hl [1, 0] rfl)
    · refine lv_iinc (pc := 26) (v := ((1 : Int32) + (16 : Int32))) (lv' := [(1, .int ((1 : Int32) + (16 : Int32))), (0, .int ((p1 ^^^ (-1 : Int32)) &&& (p1 - (1 : Int32))))]) hx hb dJ6_numberOfTrailingZeros_0f7a4_26 hl (k := 0) rfl (by rfl) (by decide) rfl (fun ls hl => ?_)
      refine lv_iload_n (pc := 29) hx hb dJ6_numberOfTrailingZeros_0f7a4_29 rfl (lv_at hl 1 rfl) ?_
      refine lv_bipush (pc := 30) (v := (16 : Int32)) hx hb dJ6_numberOfTrailingZeros_0f7a4_30 (by decide) ?_
      refine lv_iushr (pc := 32) (v := ((Int32.toUInt32 ((p1 ^^^ (-1 : Int32)) &&& (p1 - (1 : Int32))) >>> (Int32.toUInt32 (16 : Int32) &&& Int32.toUInt32 31)).toInt32)) hx hb dJ6_numberOfTrailingZeros_0f7a4_32 rfl ?_
      refine lv_istore_n (pc := 33) (lv' := [(0, .int ((Int32.toUInt32 ((p1 ^^^ (-1 : Int32)) &&& (p1 - (1 : Int32))) >>> (Int32.toUInt32 (16 : Int32) &&& Int32.toUInt32 31)).toInt32)), (1, .int ((1 : Int32) + (16 : Int32)))]) hx hb dJ6_numberOfTrailingZeros_0f7a4_33 rfl hl (by decide) rfl (fun ls hl => ?_)
      exact K1 _ _ _ hf hl
  · refine lv_iload_n (pc := 12) hx hb dJ6_numberOfTrailingZeros_0f7a4_12 rfl (lv_at hl 0 rfl) ?_
    refine lv_bipush (pc := 13) (v := (32 : Int32)) hx hb dJ6_numberOfTrailingZeros_0f7a4_13 (by decide) ?_
    refine lv_iand (pc := 15) hx hb dJ6_numberOfTrailingZeros_0f7a4_15 ?_
    exact hQ _ _ _ dJ6_numberOfTrailingZeros_0f7a4_16 hf
theorem F_X8_within : CalF yX8_within cX8_within 3 (some .boolean) 3 := ⟨tw_219, tw_1, by decide +kernel⟩
set_option maxRecDepth 100000 in
set_option maxHeartbeats 4000000 in
theorem c_X8_within (l : Launch) (D : va_G) (cI cJ cZ cS : ClassId) (p1 : Int32) (p2 : Int32) (p3 : Int32) (r : Int32) (hf : f_X8_within p1 p2 p3 = some r) : RoC l D cI cJ cZ cS yX8_within cX8_within 3 (some .boolean) 0 0 [] [.int p1, .int p2, .int p3] (some (.int r)) := by
  refine ro_in_z (own := RX8) (by decide +kernel) rfl (Nat.le_of_ble_eq_true rfl) ?_
  intro p e s m args below meth c ls Q E hQ hP hl
  obtain ⟨hx, hb, hml, hown, hts, hK, hN, hAO⟩ := id E
  have hl : lv_has ls 3 [(0, .int p1), (1, .int p2), (2, .int p3)] := hl
  unfold f_X8_within at hf
  refine lv_iload_n (pc := 0) hx hb dX8_within_0 rfl (lv_at hl 0 rfl) ?_
  refine lv_iload_n (pc := 1) hx hb dX8_within_1 rfl (lv_at hl 1 rfl) ?_
  refine r_ic_lt (pc := 2) (tgt := 14) hx hb dX8_within_2 (by decide) hf (fun hf => ?_) (fun hf => ?_)
  · refine lv_iconst (pc := 14) (v := (0 : Int32)) hx hb dX8_within_14 (by decide) ?_
    exact hQ _ _ _ dX8_within_15 rfl hf
  · refine lv_iload_n (pc := 5) hx hb dX8_within_5 rfl (lv_at hl 0 rfl) ?_
    refine lv_iload_n (pc := 6) hx hb dX8_within_6 rfl (lv_at hl 2 rfl) ?_
    refine r_ic_gt (pc := 7) (tgt := 14) hx hb dX8_within_7 (by decide) hf (fun hf => ?_) (fun hf => ?_)
    · refine lv_iconst (pc := 14) (v := (0 : Int32)) hx hb dX8_within_14 (by decide) ?_
      exact hQ _ _ _ dX8_within_15 rfl hf
    · refine lv_iconst (pc := 10) (v := (1 : Int32)) hx hb dX8_within_10 (by decide) ?_
      refine lv_goto (pc := 11) (tgt := 15) hx hb dX8_within_11 (by decide) ?_
      exact hQ _ _ _ dX8_within_15 rfl hf
theorem F_X8_lowest : CalF yX8_lowest cX8_lowest 10 (some .long) 3 := ⟨tw_520, tw_1, by decide +kernel⟩
set_option maxRecDepth 100000 in
set_option maxHeartbeats 4000000 in
theorem c_X8_lowest (l : Launch) (D : va_G) (cI cJ cZ cS : ClassId) (N : Nat) (p1 : Int64) (p2 : Int64) (p3 : Int32) (r : Int64) (hf : f_X8_lowest N p1 p2 p3 = some r) : RoC l D cI cJ cZ cS yX8_lowest cX8_lowest 10 (some .long) 0 0 [] [.long p1, .long p2, .int p3] (some (.long r)) := by
  refine ro_in_l (own := RX8) (by decide +kernel) rfl (Nat.le_of_ble_eq_true rfl) ?_
  intro p e s m args below meth c ls Q E hQ hP hl
  obtain ⟨hx, hb, hml, hown, hts, hK, hN, hAO⟩ := id E
  have hl : lv_has ls 10 [(0, .long p1), (2, .long p2), (4, .int p3)] := hl
  unfold f_X8_lowest at hf
  refine lv_lload_n (pc := 0) hx hb dX8_lowest_0 rfl (lv_at hl 0 rfl) ?_
  refine lv_lstore (pc := 1) (lv' := [(5, .long p1), (0, .long p1), (2, .long p2), (4, .int p3)]) hx hb dX8_lowest_1 hl (by decide) rfl (fun ls hl => ?_)
  refine lv_lload_n (pc := 3) hx hb dX8_lowest_3 rfl (lv_at hl 2 rfl) ?_
  refine lv_lstore (pc := 4) (lv' := [(7, .long p2), (5, .long p1), (0, .long p1), (2, .long p2), (4, .int p3)]) hx hb dX8_lowest_4 hl (by decide) rfl (fun ls hl => ?_)
  refine lv_iconst (pc := 6) (v := (0 : Int32)) hx hb dX8_lowest_6 (by decide) ?_
  refine lv_istore (pc := 7) (lv' := [(9, .int (0 : Int32)), (7, .long p2), (5, .long p1), (0, .long p1), (2, .long p2), (4, .int p3)]) hx hb dX8_lowest_7 hl (by decide) rfl (fun ls hl => ?_)
  obtain ⟨k5, hk5, hf⟩ := lc2_e hf
  have K5 : ∀ (z6 : Int64) (z7 : Int64) (ls : Array Slot), k5 z6 z7 = some r → lv_has ls 10 [(4, .int p3), (5, .long z6), (7, .long z7)] → W p l e (roR 0 0) s m args below meth c s.heap [] 0 0 Q (F0 m 56 ls []) := by
    intro z6 z7 ls hf hl
    rw [hk5] at hf
    refine lv_iload (pc := 56) hx hb dX8_lowest_56 (lv_at hl 0 rfl) ?_
    refine r_if_ne (pc := 58) (tgt := 66) hx hb dX8_lowest_58 (by decide) hf (fun hf => ?_) (fun hf => ?_)
    · refine lv_lload (pc := 66) hx hb dX8_lowest_66 (lv_at hl 2 rfl) ?_
      exact hQ _ _ _ dX8_lowest_68 hf
    · refine lv_lload (pc := 61) hx hb dX8_lowest_61 (lv_at hl 1 rfl) ?_
      refine lv_goto (pc := 63) (tgt := 68) hx hb dX8_lowest_63 (by decide) ?_
      exact hQ _ _ _ dX8_lowest_68 hf
  have L9 : ∀ (n : Nat), ∀ (y1 : Int64) (y2 : Int64) (y3 : Int32) (ls : Array Slot), f_X8_lowest_L9 k5 n y1 y2 y3 = some r → lv_has ls 10 [(4, .int p3), (5, .long y1), (7, .long y2), (9, .int y3)] → W p l e (roR 0 0) s m args below meth c s.heap [] 0 0 Q (F0 m 9 ls []) := by
    intro n
    induction n with
    | zero =>
      intro y1 y2 y3 ls hf
      rw [f_X8_lowest_L9] at hf
      cases hf
    | succ n ih =>
      intro y1 y2 y3 ls hf hl
      rw [f_X8_lowest_L9] at hf
      refine lv_iload (pc := 9) hx hb dX8_lowest_9 (lv_at hl 3 rfl) ?_
      refine lv_bipush (pc := 11) (v := (64 : Int32)) hx hb dX8_lowest_11 (by decide) ?_
      refine r_ic_ge (pc := 13) (tgt := 56) hx hb dX8_lowest_13 (by decide) hf (fun hf => ?_) (fun hf => ?_)
      · exact K5 _ _ _ hf (lv_sub hl [0, 1, 2] rfl)
      · refine lv_lload (pc := 16) hx hb dX8_lowest_16 (lv_at hl 2 rfl) ?_
        refine lv_lconst (pc := 18) (v := (1 : Int64)) hx hb dX8_lowest_18 (by decide) ?_
        refine W.lcmp (pc := 19) hx hb dX8_lowest_19 ?_
        refine r_if_le (pc := 20) (tgt := 56) hx hb dX8_lowest_20 (by decide) hf (fun hf => ?_) (fun hf => ?_)
        · exact K5 _ _ _ hf (lv_sub hl [0, 1, 2] rfl)
        · refine lv_lload (pc := 23) hx hb dX8_lowest_23 (lv_at hl 1 rfl) ?_
          refine lv_ldc2 (pc := 25) hx hb hown (hts _ tw_521) dX8_lowest_25 ?_
          refine r_lrem (pc := 28) hx hb hf dX8_lowest_28 (fun v8 hf => ?_)
          refine lv_lconst (pc := 29) (v := (0 : Int64)) hx hb dX8_lowest_29 (by decide) ?_
          refine W.lcmp (pc := 30) hx hb dX8_lowest_30 ?_
          refine r_if_ne (pc := 31) (tgt := 56) hx hb dX8_lowest_31 (by decide) hf (fun hf => ?_) (fun hf => ?_)
          · exact K5 _ _ _ hf (lv_sub hl [0, 1, 2] rfl)
          · refine lv_lload (pc := 34) hx hb dX8_lowest_34 (lv_at hl 1 rfl) ?_
            refine lv_ldc2 (pc := 36) hx hb hown (hts _ tw_521) dX8_lowest_36 ?_
            refine r_ldiv (pc := 39) hx hb hf dX8_lowest_39 (fun v9 hf => ?_)
            refine lv_lstore (pc := 40) (lv' := [(5, .long v9), (4, .int p3), (7, .long y2), (9, .int y3)]) hx hb dX8_lowest_40 hl (by decide) rfl (fun ls hl => ?_)
            refine lv_lload (pc := 42) hx hb dX8_lowest_42 (lv_at hl 2 rfl) ?_
            refine lv_ldc2 (pc := 44) hx hb hown (hts _ tw_521) dX8_lowest_44 ?_
            refine r_ldiv (pc := 47) hx hb hf dX8_lowest_47 (fun v10 hf => ?_)
            refine lv_lstore (pc := 48) (lv' := [(7, .long v10), (5, .long v9), (4, .int p3), (9, .int y3)]) hx hb dX8_lowest_48 hl (by decide) rfl (fun ls hl => ?_)
            refine lv_iinc (pc := 50) (v := (y3 + (1 : Int32))) (lv' := [(9, .int (y3 + (1 : Int32))), (7, .long v10), (5, .long v9), (4, .int p3)]) hx hb dX8_lowest_50 hl (k := 3) rfl (by rfl) (by decide) rfl (fun ls hl => ?_)
            refine lv_goto (pc := 53) (tgt := 9) hx hb dX8_lowest_53 (by decide) ?_
            exact ih _ _ _ _ hf (lv_sub hl [3, 2, 1, 0] rfl)
  exact L9 N _ _ _ _ hf (lv_sub hl [5, 2, 1, 0] rfl)
