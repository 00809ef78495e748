def f_J6_bitCount_0f7a4 (p1 : Int32) : Option (Int32) :=
  some ((((((((p1 - (((Int32.toUInt32 p1 >>> (Int32.toUInt32 (1 : Int32) &&& Int32.toUInt32 31)).toInt32) &&& (1431655765 : Int32))) &&& (858993459 : Int32)) + (((Int32.toUInt32 (p1 - (((Int32.toUInt32 p1 >>> (Int32.toUInt32 (1 : Int32) &&& Int32.toUInt32 31)).toInt32) &&& (1431655765 : Int32))) >>> (Int32.toUInt32 (2 : Int32) &&& Int32.toUInt32 31)).toInt32) &&& (858993459 : Int32))) + ((Int32.toUInt32 (((p1 - (((Int32.toUInt32 p1 >>> (Int32.toUInt32 (1 : Int32) &&& Int32.toUInt32 31)).toInt32) &&& (1431655765 : Int32))) &&& (858993459 : Int32)) + (((Int32.toUInt32 (p1 - (((Int32.toUInt32 p1 >>> (Int32.toUInt32 (1 : Int32) &&& Int32.toUInt32 31)).toInt32) &&& (1431655765 : Int32))) >>> (Int32.toUInt32 (2 : Int32) &&& Int32.toUInt32 31)).toInt32) &&& (858993459 : Int32))) >>> (Int32.toUInt32 (4 : Int32) &&& Int32.toUInt32 31)).toInt32)) &&& (252645135 : Int32)) + ((Int32.toUInt32 (((((p1 - (((Int32.toUInt32 p1 >>> (Int32.toUInt32 (1 : Int32) &&& Int32.toUInt32 31)).toInt32) &&& (1431655765 : Int32))) &&& (858993459 : Int32)) + (((Int32.toUInt32 (p1 - (((Int32.toUInt32 p1 >>> (Int32.toUInt32 (1 : Int32) &&& Int32.toUInt32 31)).toInt32) &&& (1431655765 : Int32))) >>> (Int32.toUInt32 (2 : Int32) &&& Int32.toUInt32 31)).toInt32) &&& (858993459 : Int32))) + ((Int32.toUInt32 (((p1 - (((Int32.toUInt32 p1 >>> (Int32.toUInt32 (1 : Int32) &&& Int32.toUInt32 31)).toInt32) &&& (1431655765 : Int32))) &&& (858993459 : Int32)) + (((Int32.toUInt32 (p1 - (((Int32.toUInt32 p1 >>> (Int32.toUInt32 (1 : Int32) &&& Int32.toUInt32 31)).toInt32) &&& (1431655765 : Int32))) >>> (Int32.toUInt32 (2 : Int32) &&& Int32.toUInt32 31)).toInt32) &&& (858993459 : Int32))) >>> (Int32.toUInt32 (4 : Int32) &&& Int32.toUInt32 31)).toInt32)) &&& (252645135 : Int32)) >>> (Int32.toUInt32 (8 : Int32) &&& Int32.toUInt32 31)).toInt32)) + ((Int32.toUInt32 ((((((p1 - (((Int32.toUInt32 p1 >>> (Int32.toUInt32 (1 : Int32) &&& Int32.toUInt32 31)).toInt32) &&& (1431655765 : Int32))) &&& (858993459 : Int32)) + (((Int32.toUInt32 (p1 - (((Int32.toUInt32 p1 >>> (Int32.toUInt32 (1 : Int32) &&& Int32.toUInt32 31)).toInt32) &&& (1431655765 : Int32))) >>> (Int32.toUInt32 (2 : Int32) &&& Int32.toUInt32 31)).toInt32) &&& (858993459 : Int32))) + ((Int32.toUInt32 (((p1 - (((Int32.toUInt32 p1 >>> (Int32.toUInt32 (1 : Int32) &&& Int32.toUInt32 31)).toInt32) &&& (1431655765 : Int32))) &&& (858993459 : Int32)) + (((Int32.toUInt32 (p1 - (((Int32.toUInt32 p1 >>> (Int32.toUInt32 (1 : Int32) &&& Int32.toUInt32 31)).toInt32) &&& (1431655765 : Int32))) >>> (Int32.toUInt32 (2 : Int32) &&& Int32.toUInt32 31)).toInt32) &&& (858993459 : Int32))) >>> (Int32.toUInt32 (4 : Int32) &&& Int32.toUInt32 31)).toInt32)) &&& (252645135 : Int32)) + ((Int32.toUInt32 (((((p1 - (((Int32.toUInt32 p1 >>> (Int32.toUInt32 (1 : Int32) &&& Int32.toUInt32 31)).toInt32) &&& (1431655765 : Int32))) &&& (858993459 : Int32)) + (((Int32.toUInt32 (p1 - (((Int32.toUInt32 p1 >>> (Int32.toUInt32 (1 : Int32) &&& Int32.toUInt32 31)).toInt32) &&& (1431655765 : Int32))) >>> (Int32.toUInt32 (2 : Int32) &&& Int32.toUInt32 31)).toInt32) &&& (858993459 : Int32))) + ((Int32.toUInt32 (((p1 - (((Int32.toUInt32 p1 >>> (Int32.toUInt32 (1 : Int32) &&& Int32.toUInt32 31)).toInt32) &&& (1431655765 : Int32))) &&& (858993459 : Int32)) + (((Int32.toUInt32 (p1 - (((Int32.toUInt32 p1 >>> (Int32.toUInt32 (1 : Int32) &&& Int32.toUInt32 31)).toInt32) &&& (1431655765 : Int32))) >>> (Int32.toUInt32 (2 : Int32) &&& Int32.toUInt32 31)).toInt32) &&& (858993459 : Int32))) >>> (Int32.toUInt32 (4 : Int32) &&& Int32.toUInt32 31)).toInt32)) &&& (252645135 : Int32)) >>> (Int32.toUInt32 (8 : Int32) &&& Int32.toUInt32 31)).toInt32)) >>> (Int32.toUInt32 (16 : Int32) &&& Int32.toUInt32 31)).toInt32)) &&& (63 : Int32))
def f_J6_numberOfTrailingZeros_0f7a4 (p1 : Int32) : Option (Int32) :=
  if 0 < ((p1 ^^^ (-1 : Int32)) &&& (p1 - (1 : Int32))) then
  lc (fun (x2 : Int32) (x3 : Int32) => lc (fun (x5 : Int32) (x6 : Int32) => lc (fun (x8 : Int32) (x9 : Int32) => lc (fun (x11 : Int32) (x12 : Int32) => some (x12 + ((Int32.toUInt32 x11 >>> (Int32.toUInt32 (1 : Int32) &&& Int32.toUInt32 31)).toInt32))) (fun k10 =>
  if x8 ≤ (4 : Int32) then
  k10 x8 x9
  else
  k10 ((Int32.toUInt32 x8 >>> (Int32.toUInt32 (2 : Int32) &&& Int32.toUInt32 31)).toInt32) (x9 + (2 : Int32)))) (fun k7 =>
  if x5 ≤ (16 : Int32) then
  k7 x5 x6
  else
  k7 ((Int32.toUInt32 x5 >>> (Int32.toUInt32 (4 : Int32) &&& Int32.toUInt32 31)).toInt32) (x6 + (4 : Int32)))) (fun k4 =>
  if x2 ≤ (256 : Int32) then
  k4 x2 x3
  else
  k4 ((Int32.toUInt32 x2 >>> (Int32.toUInt32 (8 : Int32) &&& Int32.toUInt32 31)).toInt32) (x3 + (8 : Int32)))) (fun k1 =>
  if ((p1 ^^^ (-1 : Int32)) &&& (p1 - (1 : Int32))) ≤ (65536 : Int32) then
  k1 ((p1 ^^^ (-1 : Int32)) &&& (p1 - (1 : Int32))) (1 : Int32)
  else
  k1 ((Int32.toUInt32 ((p1 ^^^ (-1 : Int32)) &&& (p1 - (1 : Int32))) >>> (Int32.toUInt32 (16 : Int32) &&& Int32.toUInt32 31)).toInt32) ((1 : Int32) + (16 : Int32)))
  else
  some (((p1 ^^^ (-1 : Int32)) &&& (p1 - (1 : Int32))) &&& (32 : Int32))
def f_X8_within (p1 : Int32) (p2 : Int32) (p3 : Int32) : Option (Int32) :=
  if p1 < p2 then
  some (0 : Int32)
  else
  if p3 < p1 then
  some (0 : Int32)
  else
  some (1 : Int32)
def f_X8_lowest_L9 (k5 : Int64 → Int64 → Option (Int64)) : Nat → Int64 → Int64 → Int32 → Option (Int64)
  | 0, _, _, _ => none
  | n + 1, y1, y2, y3 =>
    if (64 : Int32) ≤ y3 then
    k5 y1 y2
    else
    if (lg_cmp y2 (1 : Int64)) ≤ 0 then
    k5 y1 y2
    else
    bd (lrm y1 (2 : Int64)) fun v8 =>
    if (lg_cmp v8 (0 : Int64)) = 0 then
    bd (ldv y1 (2 : Int64)) fun v9 =>
    bd (ldv y2 (2 : Int64)) fun v10 =>
    f_X8_lowest_L9 k5 n v9 v10 (y3 + (1 : Int32))
    else
    k5 y1 y2
def f_X8_lowest (N : Nat) (p1 : Int64) (p2 : Int64) (p3 : Int32) : Option (Int64) :=
  lc (fun (z6 : Int64) (z7 : Int64) => if p3 = 0 then
  some z6
  else
  some z7) (fun k5 =>
  f_X8_lowest_L9 k5 N p1 p2 (0 : Int32))
def f_X3_isFull (pa_count : Int32) : Option (Int32) :=
  if pa_count < (40 : Int32) then
  some (0 : Int32)
  else
  some (1 : Int32)
def f_X3_add (pa_signs : Nat → Int32) (pa_count : Int32) (p1 : Int32) : Option (Int32 × Int32 × (Nat → Int32)) :=
  bd (f_X3_isFull pa_count) fun v1 =>
  if v1 = 0 then
  bd (sti pa_signs 40 pa_count p1) fun pa_signs_2 =>
  some ((pa_count + (1 : Int32)), (pa_count + (1 : Int32)), pa_signs_2)
  else
  some (pa_count, pa_count, pa_signs)
def f_X3_clear (pa_count : Int32) : Option (Int32 × Int32) :=
  some (pa_count, (0 : Int32))
def f_X3_signAt (pa_signs : Nat → Int32) (pa_count : Int32) (p1 : Int32) : Option (Int32) :=
  if p1 < 0 then
  some (0 : Int32)
  else
  if p1 < pa_count then
  bd (ld pa_signs 40 p1) fun v1 =>
  some v1
  else
  some (0 : Int32)
def f_X3_isLook (p1 : Int32) : Option (Int32) :=
  if p1 = (111 : Int32) then
  some (1 : Int32)
  else
  if p1 = (115 : Int32) then
  some (1 : Int32)
  else
  if p1 = (116 : Int32) then
  some (1 : Int32)
  else
  if p1 = (104 : Int32) then
  some (1 : Int32)
  else
  some (0 : Int32)
def f_X3_faultOfLength (pa_count : Int32) (p1 : Int32) : Option (Int32) :=
  if pa_count = p1 then
  some (-6 : Int32)
  else
  some (imin pa_count p1)
def f_X3_faultAsShot_L2 (pa_signs : Nat → Int32) (pa_count : Int32) (p1 : Int32) (k3 : Option (Int32)) : Nat → Int32 → Option (Int32)
  | 0, _ => none
  | n + 1, y1 =>
    if pa_count ≤ y1 then
    k3
    else
    if p1 ≤ y1 then
    k3
    else
    bd (f_X3_signAt pa_signs pa_count y1) fun v4 =>
    bd (f_X3_isLook v4) fun v5 =>
    if v5 = 0 then
    some y1
    else
    f_X3_faultAsShot_L2 pa_signs pa_count p1 k3 n (y1 + (1 : Int32))
def f_X3_faultAsShot (N : Nat) (pa_signs : Nat → Int32) (pa_count : Int32) (p1 : Int32) : Option (Int32) :=
  lc (bd (f_X3_faultOfLength pa_count p1) fun v6 =>
  some v6) (fun k3 =>
  f_X3_faultAsShot_L2 pa_signs pa_count p1 k3 N (0 : Int32))
def f_X3_faultAsStanding_L5 (pa_signs : Nat → Int32) (pa_count : Int32) (p1 : Int32) (p2 : Int32) (k4 : Option (Int32)) : Nat → Int32 → Int32 → Option (Int32)
  | 0, _, _ => none
  | n + 1, y1, y2 =>
    if pa_count ≤ y2 then
    k4
    else
    if p1 ≤ y2 then
    k4
    else
    bd (f_X3_signAt pa_signs pa_count y2) fun v5 =>
    bd (f_X8_within (v5 - (48 : Int32)) (0 : Int32) (p2 - (1 : Int32))) fun v6 =>
    if v6 = 0 then
    some y2
    else
    if ((y1 >>> ((v5 - (48 : Int32)) &&& 31)) &&& (1 : Int32)) = (1 : Int32) then
    some y2
    else
    f_X3_faultAsStanding_L5 pa_signs pa_count p1 p2 k4 n (y1 ||| ((1 : Int32) <<< ((v5 - (48 : Int32)) &&& 31))) (y2 + (1 : Int32))
def f_X3_faultAsStanding (N : Nat) (pa_signs : Nat → Int32) (pa_count : Int32) (p1 : Int32) (p2 : Int32) : Option (Int32) :=
  lc (bd (f_X3_faultOfLength pa_count p1) fun v7 =>
  some v7) (fun k4 =>
  f_X3_faultAsStanding_L5 pa_signs pa_count p1 p2 k4 N (0 : Int32) (0 : Int32))
def f_X3_readStanding_L2 (pa_signs : Nat → Int32) (pa_count : Int32) (p2 : Int32) (k4 : (Nat → Int32) → Option ((Nat → Int32))) : Nat → Int32 → (Nat → Int32) → Option ((Nat → Int32))
  | 0, _, _ => none
  | n + 1, y1, ar_2 =>
    if p2 ≤ y1 then
    k4 ar_2
    else
    if (8 : Int32) ≤ y1 then
    k4 ar_2
    else
    bd (f_X3_signAt pa_signs pa_count y1) fun v6 =>
    bd (sti ar_2 8 y1 (v6 - (48 : Int32))) fun ar_7 =>
    f_X3_readStanding_L2 pa_signs pa_count p2 k4 n (y1 + (1 : Int32)) ar_7
def f_X3_readStanding (N : Nat) (pa_signs : Nat → Int32) (pa_count : Int32) (ar : Nat → Int32) (p2 : Int32) : Option ((Nat → Int32)) :=
  lc (fun (ar_5 : Nat → Int32) => some ar_5) (fun k4 =>
  f_X3_readStanding_L2 pa_signs pa_count p2 k4 N (0 : Int32) ar)
def f_X6_startPeople : Option (Int32 × Int32) :=
  some ((0 : Int32), (0 : Int32))
def f_X6_copyFrom (sh_looks : Nat → Int32) (sh_openBits : Nat → Int32) (sh2_count : Int32) (sh2_hands : Int32) (sh2_looks : Nat → Int32) (sh2_openBits : Nat → Int32) : Option (Int32 × Int32 × (Nat → Int32) × (Nat → Int32)) :=
  some (sh2_count, sh2_hands, (va_cpy sh2_looks sh_looks 0 0 80), (va_cpy sh2_openBits sh_openBits 0 0 10))
def f_X6_isFull (sh_count : Int32) : Option (Int32) :=
  if sh_count < (10 : Int32) then
  some (0 : Int32)
  else
  some (1 : Int32)
def f_X6_has (sh_count : Int32) (p1 : Int32) : Option (Int32) :=
  if p1 < 0 then
  some (0 : Int32)
  else
  if sh_count ≤ p1 then
  some (0 : Int32)
  else
  some (1 : Int32)
def f_X6_take_L25 (sh_count : Int32) (pa_signs : Nat → Int32) (pa_count : Int32) (p2 : Int32) (k7 : (Nat → Int32) → (Nat → Int32) → Option (Int32 × Int32 × (Nat → Int32) × (Nat → Int32))) : Nat → Int32 → (Nat → Int32) → (Nat → Int32) → Option (Int32 × Int32 × (Nat → Int32) × (Nat → Int32))
  | 0, _, _, _ => none
  | n + 1, y3, sh_looks_4, sh_openBits_5 =>
    if p2 ≤ y3 then
    k7 sh_looks_4 sh_openBits_5
    else
    bd (f_X3_signAt pa_signs pa_count y3) fun v10 =>
    bd (sti sh_looks_4 80 ((sh_count * (8 : Int32)) + y3) v10) fun sh_looks_11 =>
    lc (fun (sh_openBits_15 : Nat → Int32) => f_X6_take_L25 sh_count pa_signs pa_count p2 k7 n (y3 + (1 : Int32)) sh_looks_11 sh_openBits_15) (fun k12 =>
    if v10 = (111 : Int32) then
    bd (ld sh_openBits_5 10 sh_count) fun v13 =>
    bd (sti sh_openBits_5 10 sh_count (v13 ||| ((1 : Int32) <<< (y3 &&& 31)))) fun sh_openBits_14 =>
    k12 sh_openBits_14
    else
    k12 sh_openBits_5)
def f_X6_take (N : Nat) (sh_count : Int32) (sh_looks : Nat → Int32) (sh_openBits : Nat → Int32) (pa_signs : Nat → Int32) (pa_count : Int32) (p2 : Int32) : Option (Int32 × Int32 × (Nat → Int32) × (Nat → Int32)) :=
  bd (f_X6_isFull sh_count) fun v1 =>
  if v1 = 0 then
  bd (sti sh_openBits 10 sh_count (0 : Int32)) fun sh_openBits_2 =>
  lc (fun (sh_looks_8 : Nat → Int32) (sh_openBits_9 : Nat → Int32) => some (sh_count, (sh_count + (1 : Int32)), sh_looks_8, sh_openBits_9)) (fun k7 =>
  f_X6_take_L25 sh_count pa_signs pa_count p2 k7 N (0 : Int32) sh_looks sh_openBits_2)
  else
  some ((-6 : Int32), sh_count, sh_looks, sh_openBits)
def f_X6_lookOf (sh_looks : Nat → Int32) (p1 : Int32) (p2 : Int32) : Option (Int32) :=
  bd (ld sh_looks 80 ((p1 * (8 : Int32)) + p2)) fun v1 =>
  some v1
def f_X6_isOpen (sh_openBits : Nat → Int32) (p1 : Int32) (p2 : Int32) : Option (Int32) :=
  bd (ld sh_openBits 10 p1) fun v1 =>
  if ((v1 >>> (p2 &&& 31)) &&& (1 : Int32)) = (1 : Int32) then
  some (1 : Int32)
  else
  some (0 : Int32)
def f_X6_holdHands (sh_hands : Int32) (p1 : Int32) : Option (Int32) :=
  if ((sh_hands >>> (p1 &&& 31)) &&& (1 : Int32)) = (1 : Int32) then
  some (1 : Int32)
  else
  some (0 : Int32)
def f_X6_badIn (sh_openBits : Nat → Int32) (p1 : Int32) (p2 : Int32) : Option (Int32) :=
  bd (ld sh_openBits 10 p1) fun v1 =>
  bd (f_J6_bitCount_0f7a4 (p2 &&& (v1 ^^^ (-1 : Int32)))) fun v2 =>
  some v2
def f_X6_hiddenIn_L5 (sh_looks : Nat → Int32) (p1 : Int32) (p2 : Int32) (k4 : Int32 → Option (Int32)) : Nat → Int32 → Int32 → Option (Int32)
  | 0, _, _ => none
  | n + 1, y1, y2 =>
    if p2 ≤ y2 then
    k4 y1
    else
    bd (f_X6_lookOf sh_looks p1 y2) fun v6 =>
    lc (fun (x8 : Int32) => f_X6_hiddenIn_L5 sh_looks p1 p2 k4 n x8 (y2 + (1 : Int32))) (fun k7 =>
    if v6 = (104 : Int32) then
    k7 (y1 + (1 : Int32))
    else
    k7 y1)
def f_X6_hiddenIn (N : Nat) (sh_looks : Nat → Int32) (p1 : Int32) (p2 : Int32) : Option (Int32) :=
  lc (fun (z5 : Int32) => some z5) (fun k4 =>
  f_X6_hiddenIn_L5 sh_looks p1 p2 k4 N (0 : Int32) (0 : Int32))
def f_X6_bestSingle_L9 (sh_count : Int32) (sh_looks : Nat → Int32) (sh_openBits : Nat → Int32) (p1 : Int32) (p2 : Int32) (N : Nat) (k5 : Int32 → Option (Int32)) : Nat → Int32 → Int32 → Int32 → Option (Int32)
  | 0, _, _, _ => none
  | n + 1, y1, y2, y3 =>
    if sh_count ≤ y3 then
    k5 y1
    else
    lc (fun (x13 : Int32) (x14 : Int32) => f_X6_bestSingle_L9 sh_count sh_looks sh_openBits p1 p2 N k5 n x13 x14 (y3 + (1 : Int32))) (fun k8 =>
    lc (bd (f_X6_badIn sh_openBits y3 (((1 : Int32) <<< (p1 &&& 31)) - (1 : Int32))) fun v10 =>
    bd (f_X6_hiddenIn N sh_looks y3 p1) fun v11 =>
    lc (k8 y3 ((v10 * (9 : Int32)) + v11)) (fun k12 =>
    if y1 = (-6 : Int32) then
    k12
    else
    if y2 ≤ ((v10 * (9 : Int32)) + v11) then
    k8 y1 y2
    else
    k12)) (fun k7 =>
    if p2 = (-6 : Int32) then
    k7
    else
    bd (f_X6_isOpen sh_openBits y3 p2) fun v9 =>
    if v9 = 0 then
    k8 y1 y2
    else
    k7))
def f_X6_bestSingle (N : Nat) (sh_count : Int32) (sh_looks : Nat → Int32) (sh_openBits : Nat → Int32) (p1 : Int32) (p2 : Int32) : Option (Int32) :=
  lc (fun (z6 : Int32) => some z6) (fun k5 =>
  f_X6_bestSingle_L9 sh_count sh_looks sh_openBits p1 p2 N k5 N (-6 : Int32) (0 : Int32) (0 : Int32))
def f_X6_openInSome_L4 (sh_count : Int32) (sh_openBits : Nat → Int32) (p1 : Int32) (k4 : Int32 → Option (Int32)) : Nat → Int32 → Int32 → Option (Int32)
  | 0, _, _ => none
  | n + 1, y1, y2 =>
    if sh_count ≤ y2 then
    k4 y1
    else
    lc (fun (x8 : Int32) => f_X6_openInSome_L4 sh_count sh_openBits p1 k4 n x8 (y2 + (1 : Int32))) (fun k6 =>
    if ((p1 >>> (y2 &&& 31)) &&& (1 : Int32)) = (1 : Int32) then
    bd (ld sh_openBits 10 y2) fun v7 =>
    k6 (y1 ||| v7)
    else
    k6 y1)
def f_X6_openInSome (N : Nat) (sh_count : Int32) (sh_openBits : Nat → Int32) (p1 : Int32) : Option (Int32) :=
  lc (fun (z5 : Int32) => some z5) (fun k4 =>
  f_X6_openInSome_L4 sh_count sh_openBits p1 k4 N (0 : Int32) (0 : Int32))
def f_X6_leastCover_L9 (sh_count : Int32) (sh_openBits : Nat → Int32) (p1 : Int32) (N : Nat) (k5 : Int32 → Option (Int32)) : Nat → Int32 → Int32 → Int32 → Option (Int32)
  | 0, _, _, _ => none
  | n + 1, y1, y2, y3 =>
    if ((1 : Int32) <<< (sh_count &&& 31)) ≤ y3 then
    k5 y1
    else
    bd (f_J6_bitCount_0f7a4 y3) fun v7 =>
    lc (fun (x10 : Int32) (x11 : Int32) => f_X6_leastCover_L9 sh_count sh_openBits p1 N k5 n x10 x11 (y3 + (1 : Int32))) (fun k8 =>
    if y2 ≤ v7 then
    k8 y1 y2
    else
    bd (f_X6_openInSome N sh_count sh_openBits y3) fun v9 =>
    if v9 = p1 then
    k8 y3 v7
    else
    k8 y1 y2)
def f_X6_leastCover (N : Nat) (sh_count : Int32) (sh_openBits : Nat → Int32) (p1 : Int32) : Option (Int32) :=
  lc (fun (z6 : Int32) => some z6) (fun k5 =>
  f_X6_leastCover_L9 sh_count sh_openBits p1 N k5 N (-6 : Int32) (11 : Int32) (1 : Int32))
def f_X6_timesBad_L4 (sh_count : Int32) (sh_openBits : Nat → Int32) (p1 : Int32) (k4 : Int32 → Option (Int32)) : Nat → Int32 → Int32 → Option (Int32)
  | 0, _, _ => none
  | n + 1, y1, y2 =>
    if sh_count ≤ y2 then
    k4 y1
    else
    bd (f_X6_isOpen sh_openBits y2 p1) fun v6 =>
    lc (fun (x8 : Int32) => f_X6_timesBad_L4 sh_count sh_openBits p1 k4 n x8 (y2 + (1 : Int32))) (fun k7 =>
    if v6 = 0 then
    k7 (y1 + (1 : Int32))
    else
    k7 y1)
def f_X6_timesBad (N : Nat) (sh_count : Int32) (sh_openBits : Nat → Int32) (p1 : Int32) : Option (Int32) :=
  lc (fun (z5 : Int32) => some z5) (fun k4 =>
  f_X6_timesBad_L4 sh_count sh_openBits p1 k4 N (0 : Int32) (0 : Int32))
def f_X6_worstPerson_L8 (sh_count : Int32) (sh_openBits : Nat → Int32) (p1 : Int32) (N : Nat) (k5 : Int32 → Option (Int32)) : Nat → Int32 → Int32 → Int32 → Option (Int32)
  | 0, _, _, _ => none
  | n + 1, y1, y2, y3 =>
    if p1 ≤ y3 then
    k5 y1
    else
    bd (f_X6_timesBad N sh_count sh_openBits y3) fun v7 =>
    lc (fun (x9 : Int32) (x10 : Int32) => f_X6_worstPerson_L8 sh_count sh_openBits p1 N k5 n x9 x10 (y3 + (1 : Int32))) (fun k8 =>
    if v7 ≤ y2 then
    k8 y1 y2
    else
    k8 y3 v7)
def f_X6_worstPerson (N : Nat) (sh_count : Int32) (sh_openBits : Nat → Int32) (p1 : Int32) : Option (Int32) :=
  lc (fun (z6 : Int32) => some z6) (fun k5 =>
  f_X6_worstPerson_L8 sh_count sh_openBits p1 N k5 N (-6 : Int32) (0 : Int32) (0 : Int32))
def f_X6_fewestBad_L5 (sh_count : Int32) (sh_openBits : Nat → Int32) (p1 : Int32) (k4 : Int32 → Option (Int32)) : Nat → Int32 → Int32 → Option (Int32)
  | 0, _, _ => none
  | n + 1, y1, y2 =>
    if sh_count ≤ y2 then
    k4 y1
    else
    bd (f_X6_badIn sh_openBits y2 p1) fun v6 =>
    f_X6_fewestBad_L5 sh_count sh_openBits p1 k4 n (imin y1 v6) (y2 + (1 : Int32))
def f_X6_fewestBad (N : Nat) (sh_count : Int32) (sh_openBits : Nat → Int32) (p1 : Int32) : Option (Int32) :=
  lc (fun (z5 : Int32) => some z5) (fun k4 =>
  f_X6_fewestBad_L5 sh_count sh_openBits p1 k4 N (8 : Int32) (0 : Int32))
def f_X6_fewestLeft_L17 (sh_count : Int32) (sh_hands : Int32) (sh_openBits : Nat → Int32) (p1 : Int32) (N : Nat) (k5 : Int32 → Option (Int32)) : Nat → Int32 → Int32 → Int32 → Option (Int32)
  | 0, _, _, _ => none
  | n + 1, y1, y2, y3 =>
    if p1 ≤ y3 then
    k5 y1
    else
    bd (f_X6_holdHands sh_hands y3) fun v7 =>
    lc (fun (x10 : Int32) (x11 : Int32) => f_X6_fewestLeft_L17 sh_count sh_hands sh_openBits p1 N k5 n x10 x11 (y3 + (1 : Int32))) (fun k8 =>
    if v7 = 0 then
    bd (f_X6_fewestBad N sh_count sh_openBits (y2 ||| ((1 : Int32) <<< (y3 &&& 31)))) fun v9 =>
    k8 (y1 + v9) (0 : Int32)
    else
    k8 y1 (y2 ||| ((1 : Int32) <<< (y3 &&& 31))))
def f_X6_fewestLeft (N : Nat) (sh_count : Int32) (sh_hands : Int32) (sh_openBits : Nat → Int32) (p1 : Int32) : Option (Int32) :=
  if sh_count = 0 then
  some (-6 : Int32)
  else
  lc (fun (z6 : Int32) => some z6) (fun k5 =>
  f_X6_fewestLeft_L17 sh_count sh_hands sh_openBits p1 N k5 N (0 : Int32) (0 : Int32) (0 : Int32))
def f_X1_shotOf (hw_chosen : Nat → Int32) (p1 : Int32) : Option (Int32) :=
  bd (ld hw_chosen 8 p1) fun v1 =>
  some v1
def f_X1_firstLeast_L4 (hw_cutsFrom : Nat → Int32) (p1 : Int32) (k4 : Int32 → Option (Int32)) : Nat → Int32 → Int32 → Option (Int32)
  | 0, _, _ => none
  | n + 1, y1, y2 =>
    if p1 ≤ y2 then
    k4 y1
    else
    bd (ld hw_cutsFrom 80 y2) fun v6 =>
    bd (ld hw_cutsFrom 80 y1) fun v7 =>
    lc (fun (x9 : Int32) => f_X1_firstLeast_L4 hw_cutsFrom p1 k4 n x9 (y2 + (1 : Int32))) (fun k8 =>
    if v7 ≤ v6 then
    k8 y1
    else
    k8 y2)
def f_X1_firstLeast (N : Nat) (hw_cutsFrom : Nat → Int32) (p1 : Int32) : Option (Int32) :=
  lc (fun (z5 : Int32) => some z5) (fun k4 =>
  f_X1_firstLeast_L4 hw_cutsFrom p1 k4 N (0 : Int32) (1 : Int32))
def f_X1_cutsBehind (hw_cutsFrom : Nat → Int32) (sh_hands : Int32) (p2 : Int32) (p3 : Int32) (p4 : Int32) : Option (Int32) :=
  bd (ld hw_cutsFrom 80 (((p2 + (1 : Int32)) * (10 : Int32)) + p3)) fun v1 =>
  bd (f_X6_holdHands sh_hands p2) fun v2 =>
  if v2 = 0 then
  some (imin (1000 : Int32) (imin v1 (p4 + (1 : Int32))))
  else
  some v1
def f_X1_fillRow_L8 (sh_count : Int32) (sh_hands : Int32) (sh_openBits : Nat → Int32) (p2 : Int32) (p3 : Int32) (p4 : Int32) (k5 : Int32 → (Nat → Int32) → Option (Int32 × (Nat → Int32))) : Nat → Int32 → Int32 → (Nat → Int32) → Option (Int32 × (Nat → Int32))
  | 0, _, _, _ => none
  | n + 1, y1, y2, hw_cutsFrom_3 =>
    if sh_count ≤ y2 then
    k5 y1 hw_cutsFrom_3
    else
    bd (f_X6_isOpen sh_openBits y2 p2) fun v8 =>
    lc (fun (x13 : Int32) => bd (sti hw_cutsFrom_3 80 ((p2 * (10 : Int32)) + y2) x13) fun hw_cutsFrom_14 =>
    f_X1_fillRow_L8 sh_count sh_hands sh_openBits p2 p3 p4 k5 n (imin y1 x13) (y2 + (1 : Int32)) hw_cutsFrom_14) (fun k9 =>
    if v8 = 0 then
    k9 (1000 : Int32)
    else
    lc (fun (x12 : Int32) => k9 x12) (fun k10 =>
    if p3 = 0 then
    bd (f_X1_cutsBehind hw_cutsFrom_3 sh_hands p2 y2 p4) fun v11 =>
    k10 v11
    else
    k10 (0 : Int32)))
def f_X1_fillRow (N : Nat) (hw_cutsFrom : Nat → Int32) (sh_count : Int32) (sh_hands : Int32) (sh_openBits : Nat → Int32) (p2 : Int32) (p3 : Int32) (p4 : Int32) : Option (Int32 × (Nat → Int32)) :=
  lc (fun (z6 : Int32) (hw_cutsFrom_7 : Nat → Int32) => some (z6, hw_cutsFrom_7)) (fun k5 =>
  f_X1_fillRow_L8 sh_count sh_hands sh_openBits p2 p3 p4 k5 N (1000 : Int32) (0 : Int32) hw_cutsFrom)
def f_X1_firstBehind_L30 (hw_cutsFrom : Nat → Int32) (sh_count : Int32) (p2 : Int32) (p3 : Int32) (v2 : Int32) (k5 : Option (Int32)) : Nat → Int32 → Option (Int32)
  | 0, _ => none
  | n + 1, y3 =>
    if sh_count ≤ y3 then
    k5
    else
    lc (fun (x7 : Int32) => bd (ld hw_cutsFrom 80 ((p2 * (10 : Int32)) + y3)) fun v8 =>
    if (v8 + x7) = v2 then
    some y3
    else
    f_X1_firstBehind_L30 hw_cutsFrom sh_count p2 p3 v2 k5 n (y3 + (1 : Int32))) (fun k6 =>
    if y3 = p3 then
    k6 (0 : Int32)
    else
    k6 (1 : Int32))
def f_X1_firstBehind (N : Nat) (hw_cutsFrom : Nat → Int32) (sh_count : Int32) (sh_hands : Int32) (p2 : Int32) (p3 : Int32) : Option (Int32) :=
  bd (f_X6_holdHands sh_hands (p2 - (1 : Int32))) fun v1 =>
  if v1 = 0 then
  bd (ld hw_cutsFrom 80 (((p2 - (1 : Int32)) * (10 : Int32)) + p3)) fun v2 =>
  lc (some p3) (fun k5 =>
  f_X1_firstBehind_L30 hw_cutsFrom sh_count p2 p3 v2 k5 N (0 : Int32))
  else
  some p3
def f_X1_choose_L16 (hw_cutsFrom : Nat → Int32) (sh_count : Int32) (sh_hands : Int32) (p2 : Int32) (N : Nat) (k6 : (Nat → Int32) → Option ((Nat → Int32))) : Nat → Int32 → (Nat → Int32) → Option ((Nat → Int32))
  | 0, _, _ => none
  | n + 1, y3, hw_chosen_4 =>
    if p2 ≤ y3 then
    k6 hw_chosen_4
    else
    bd (ld hw_chosen_4 8 (y3 - (1 : Int32))) fun v8 =>
    bd (f_X1_firstBehind N hw_cutsFrom sh_count sh_hands y3 v8) fun v9 =>
    bd (sti hw_chosen_4 8 y3 v9) fun hw_chosen_10 =>
    f_X1_choose_L16 hw_cutsFrom sh_count sh_hands p2 N k6 n (y3 + (1 : Int32)) hw_chosen_10
def f_X1_choose (N : Nat) (hw_cutsFrom : Nat → Int32) (hw_chosen : Nat → Int32) (sh_count : Int32) (sh_hands : Int32) (p2 : Int32) : Option ((Nat → Int32)) :=
  bd (f_X1_firstLeast N hw_cutsFrom sh_count) fun v1 =>
  bd (sti hw_chosen 8 (0 : Int32) v1) fun hw_chosen_2 =>
  lc (fun (hw_chosen_7 : Nat → Int32) => some hw_chosen_7) (fun k6 =>
  f_X1_choose_L16 hw_cutsFrom sh_count sh_hands p2 N k6 N (1 : Int32) hw_chosen_2)
def f_X1_solve_L7 (sh_count : Int32) (sh_hands : Int32) (sh_openBits : Nat → Int32) (p2 : Int32) (N : Nat) (k5 : Int32 → (Nat → Int32) → Option (Int32 × (Nat → Int32) × (Nat → Int32))) : Nat → Int32 → Int32 → (Nat → Int32) → Option (Int32 × (Nat → Int32) × (Nat → Int32))
  | 0, _, _, _ => none
  | n + 1, y1, y2, hw_cutsFrom_3 =>
    if y2 < 0 then
    k5 y1 hw_cutsFrom_3
    else
    lc (fun (x9 : Int32) => bd (f_X1_fillRow N hw_cutsFrom_3 sh_count sh_hands sh_openBits y2 x9 y1) fun ⟨v10, hw_cutsFrom_11⟩ =>
    f_X1_solve_L7 sh_count sh_hands sh_openBits p2 N k5 n v10 (y2 + (-1 : Int32)) hw_cutsFrom_11) (fun k8 =>
    if y2 = (p2 - (1 : Int32)) then
    k8 (1 : Int32)
    else
    k8 (0 : Int32))
def f_X1_solve (N : Nat) (hw_cutsFrom : Nat → Int32) (hw_chosen : Nat → Int32) (sh_count : Int32) (sh_hands : Int32) (sh_openBits : Nat → Int32) (p2 : Int32) : Option (Int32 × (Nat → Int32) × (Nat → Int32)) :=
  lc (fun (z6 : Int32) (hw_cutsFrom_7 : Nat → Int32) => if z6 < (1000 : Int32) then
  bd (f_X1_choose N hw_cutsFrom_7 hw_chosen sh_count sh_hands p2) fun hw_chosen_12 =>
  some (z6, hw_cutsFrom_7, hw_chosen_12)
  else
  some ((-6 : Int32), hw_cutsFrom_7, hw_chosen)) (fun k5 =>
  f_X1_solve_L7 sh_count sh_hands sh_openBits p2 N k5 N (0 : Int32) (p2 - (1 : Int32)) hw_cutsFrom)
def f_X0_startPeople_L2 (k4 : (Nat → Int32) → Option ((Nat → Int32))) : Nat → Int32 → (Nat → Int32) → Option ((Nat → Int32))
  | 0, _, _ => none
  | n + 1, y1, bl_settings_2 =>
    if (8 : Int32) ≤ y1 then
    k4 bl_settings_2
    else
    bd (sti bl_settings_2 24 ((y1 * (3 : Int32)) + (0 : Int32)) (30 : Int32)) fun bl_settings_6 =>
    bd (sti bl_settings_6 24 ((y1 * (3 : Int32)) + (1 : Int32)) (2 : Int32)) fun bl_settings_7 =>
    bd (sti bl_settings_7 24 ((y1 * (3 : Int32)) + (2 : Int32)) (0 : Int32)) fun bl_settings_8 =>
    f_X0_startPeople_L2 k4 n (y1 + (1 : Int32)) bl_settings_8
def f_X0_startPeople (N : Nat) (bl_settings : Nat → Int32) : Option ((Nat → Int32)) :=
  lc (fun (bl_settings_5 : Nat → Int32) => some bl_settings_5) (fun k4 =>
  f_X0_startPeople_L2 k4 N (0 : Int32) bl_settings)
def f_X0_copyFrom (bl_settings : Nat → Int32) (bl2_flash : Int32) (bl2_settings : Nat → Int32) : Option (Int32 × (Nat → Int32)) :=
  some (bl2_flash, (va_cpy bl2_settings bl_settings 0 0 24))
def f_X0_settingOf (bl_settings : Nat → Int32) (p1 : Int32) (p2 : Int32) : Option (Int32) :=
  bd (ld bl_settings 24 ((p1 * (3 : Int32)) + p2)) fun v1 =>
  some v1
def f_X0_fits (bl_settings : Nat → Int32) (p1 : Int32) (p2 : Int32) (p3 : Int32) : Option (Int32) :=
  if p2 = (0 : Int32) then
  bd (f_X0_settingOf bl_settings p1 (1 : Int32)) fun v1 =>
  bd (f_X8_within p3 (imax (1 : Int32) v1) (60 : Int32)) fun v2 =>
  bz v2
  else if p2 = (1 : Int32) then
  bd (f_X0_settingOf bl_settings p1 (0 : Int32)) fun v3 =>
  bd (f_X8_within p3 (0 : Int32) v3) fun v4 =>
  bz v4
  else if p2 = (2 : Int32) then
  bd (f_X8_within p3 (0 : Int32) (59 : Int32)) fun v5 =>
  bz v5
  else 
  some (0 : Int32)
def f_X0_change (bl_settings : Nat → Int32) (p1 : Int32) (p2 : Int32) (p3 : Int32) : Option (Int32 × (Nat → Int32)) :=
  bd (f_X0_settingOf bl_settings p1 p2) fun v1 =>
  bd (sti bl_settings 24 ((p1 * (3 : Int32)) + p2) p3) fun bl_settings_2 =>
  some (v1, bl_settings_2)
def f_X0_isFlashed (bl_flash : Int32) (p1 : Int32) : Option (Int32) :=
  if bl_flash < 0 then
  some (0 : Int32)
  else
  if p1 = (bl_flash + (1 : Int32)) then
  some (1 : Int32)
  else
  if p1 = (bl_flash + (2 : Int32)) then
  some (1 : Int32)
  else
  some (0 : Int32)
def f_X0_isShut (bl_settings : Nat → Int32) (p1 : Int32) (p2 : Int32) : Option (Int32) :=
  bd (f_X0_settingOf bl_settings p1 (0 : Int32)) fun v1 =>
  if (1 : Int32) ≤ v1 then
  bd (f_X0_settingOf bl_settings p1 (2 : Int32)) fun v2 =>
  bd (irm (p2 + v2) v1) fun v3 =>
  bd (f_X0_settingOf bl_settings p1 (1 : Int32)) fun v4 =>
  if v4 ≤ v3 then
  some (0 : Int32)
  else
  some (1 : Int32)
  else
  some (0 : Int32)
def f_X0_openAt_L15 (bl_settings : Nat → Int32) (p1 : Int32) (p2 : Int32) (k5 : Int32 → Option (Int32)) : Nat → Int32 → Int32 → Option (Int32)
  | 0, _, _ => none
  | n + 1, y2, y3 =>
    if p2 ≤ y3 then
    k5 y2
    else
    bd (f_X0_isShut bl_settings y3 p1) fun v7 =>
    lc (fun (x9 : Int32) => f_X0_openAt_L15 bl_settings p1 p2 k5 n x9 (y3 + (1 : Int32))) (fun k8 =>
    if v7 = 0 then
    k8 (y2 ||| ((1 : Int32) <<< (y3 &&& 31)))
    else
    k8 y2)
def f_X0_openAt (N : Nat) (bl_flash : Int32) (bl_settings : Nat → Int32) (p1 : Int32) (p2 : Int32) : Option (Int32) :=
  bd (f_X0_isFlashed bl_flash p1) fun v1 =>
  if v1 = 0 then
  lc (fun (z6 : Int32) => some z6) (fun k5 =>
  f_X0_openAt_L15 bl_settings p1 p2 k5 N (0 : Int32) (0 : Int32))
  else
  some (0 : Int32)
def f_X0_bestTenth_L9 (bl_flash : Int32) (bl_settings : Nat → Int32) (p2 : Int32) (p3 : Int32) (N : Nat) (k5 : Int32 → Option (Int32)) : Nat → Int32 → Int32 → Int32 → Option (Int32)
  | 0, _, _, _ => none
  | n + 1, y1, y2, y3 =>
    if p2 < y3 then
    k5 y1
    else
    if p3 ≤ y2 then
    k5 y1
    else
    bd (f_X0_openAt N bl_flash bl_settings y3 p3) fun v7 =>
    bd (f_J6_bitCount_0f7a4 v7) fun v8 =>
    lc (fun (x10 : Int32) (x11 : Int32) => f_X0_bestTenth_L9 bl_flash bl_settings p2 p3 N k5 n x10 x11 (y3 + (1 : Int32))) (fun k9 =>
    if v8 ≤ y2 then
    k9 y1 y2
    else
    k9 y3 v8)
def f_X0_bestTenth (N : Nat) (bl_flash : Int32) (bl_settings : Nat → Int32) (p1 : Int32) (p2 : Int32) (p3 : Int32) : Option (Int32) :=
  lc (fun (z6 : Int32) => some z6) (fun k5 =>
  f_X0_bestTenth_L9 bl_flash bl_settings p2 p3 N k5 N p1 (-1 : Int32) p1)
def f_X0_tenthsOfAll_L13 (bl_flash : Int32) (bl_settings : Nat → Int32) (p2 : Int32) (p3 : Int32) (N : Nat) (k4 : Int32 → Option (Int32)) : Nat → Int32 → Int32 → Option (Int32)
  | 0, _, _ => none
  | n + 1, y1, y2 =>
    if p2 < y2 then
    k4 y1
    else
    bd (f_X0_openAt N bl_flash bl_settings y2 p3) fun v6 =>
    lc (fun (x8 : Int32) => f_X0_tenthsOfAll_L13 bl_flash bl_settings p2 p3 N k4 n x8 (y2 + (1 : Int32))) (fun k7 =>
    if v6 = (((1 : Int32) <<< (p3 &&& 31)) - (1 : Int32)) then
    k7 (y1 + (1 : Int32))
    else
    k7 y1)
def f_X0_tenthsOfAll (N : Nat) (bl_flash : Int32) (bl_settings : Nat → Int32) (p1 : Int32) (p2 : Int32) (p3 : Int32) : Option (Int32) :=
  lc (fun (z5 : Int32) => some z5) (fun k4 =>
  f_X0_tenthsOfAll_L13 bl_flash bl_settings p2 p3 N k4 N (0 : Int32) p1)
def f_X2_waysOf (p1 : Int32) (p2 : Int32) : Option (Int64) :=
  some ((1 : Int64) <<< (Int32.toInt64 (((2 : Int32) * p1) * p2) &&& 63))
def f_X2_startPeople_L2 (k4 : (Nat → Int32) → Option ((Nat → Int32))) : Nat → Int32 → (Nat → Int32) → Option ((Nat → Int32))
  | 0, _, _ => none
  | n + 1, y1, od_quarters_2 =>
    if (8 : Int32) ≤ y1 then
    k4 od_quarters_2
    else
    bd (sti od_quarters_2 8 y1 (1 : Int32)) fun od_quarters_6 =>
    f_X2_startPeople_L2 k4 n (y1 + (1 : Int32)) od_quarters_6
def f_X2_startPeople (N : Nat) (od_quarters : Nat → Int32) : Option ((Nat → Int32)) :=
  lc (fun (od_quarters_5 : Nat → Int32) => some od_quarters_5) (fun k4 =>
  f_X2_startPeople_L2 k4 N (0 : Int32) od_quarters)
def f_X2_copyFrom (od_quarters : Nat → Int32) (od2_tired : Int32) (od2_quarters : Nat → Int32) : Option (Int32 × (Nat → Int32)) :=
  some (od2_tired, (va_cpy od2_quarters od_quarters 0 0 8))
def f_X2_changeTired (od_tired : Int32) (p1 : Int32) : Option (Int32 × Int32) :=
  some (od_tired, p1)
def f_X2_changeQuarters (od_quarters : Nat → Int32) (p1 : Int32) (p2 : Int32) : Option (Int32 × (Nat → Int32)) :=
  bd (ld od_quarters 8 p1) fun v1 =>
  bd (sti od_quarters 8 p1 p2) fun od_quarters_2 =>
  some (v1, od_quarters_2)
def f_X2_quartersOf (od_quarters : Nat → Int32) (p1 : Int32) : Option (Int32) :=
  bd (ld od_quarters 8 p1) fun v1 =>
  some v1
def f_X2_quartersIn (od_tired : Int32) (od_quarters : Nat → Int32) (p1 : Int32) (p2 : Int32) : Option (Int32) :=
  if od_tired ≤ p1 then
  bd (ld od_quarters 8 p2) fun v1 =>
  some (imin (4 : Int32) (v1 + (1 : Int32)))
  else
  bd (ld od_quarters 8 p2) fun v2 =>
  some v2
def f_X2_waysAllOpen_L5 (od_tired : Int32) (od_quarters : Nat → Int32) (p1 : Int32) (p2 : Int32) (k4 : Int64 → Option (Int64)) : Nat → Int64 → Int32 → Option (Int64)
  | 0, _, _ => none
  | n + 1, y1, y2 =>
    if p2 ≤ y2 then
    k4 y1
    else
    bd (f_X2_quartersIn od_tired od_quarters p1 y2) fun v6 =>
    f_X2_waysAllOpen_L5 od_tired od_quarters p1 p2 k4 n (y1 * (Int32.toInt64 ((4 : Int32) - v6))) (y2 + (1 : Int32))
def f_X2_waysAllOpen (N : Nat) (od_tired : Int32) (od_quarters : Nat → Int32) (p1 : Int32) (p2 : Int32) : Option (Int64) :=
  lc (fun (z5 : Int64) => some z5) (fun k4 =>
  f_X2_waysAllOpen_L5 od_tired od_quarters p1 p2 k4 N (1 : Int64) (0 : Int32))
def f_X2_waysOneOf_L5 (od_tired : Int32) (od_quarters : Nat → Int32) (p1 : Int32) (p2 : Int32) (N : Nat) (k4 : Int64 → Option (Int64)) : Nat → Int64 → Int32 → Option (Int64)
  | 0, _, _ => none
  | n + 1, y1, y2 =>
    if p1 ≤ y2 then
    k4 y1
    else
    bd (f_X2_waysOf (1 : Int32) p2) fun v6 =>
    bd (f_X2_waysAllOpen N od_tired od_quarters y2 p2) fun v7 =>
    f_X2_waysOneOf_L5 od_tired od_quarters p1 p2 N k4 n (y1 * (v6 - v7)) (y2 + (1 : Int32))
def f_X2_waysOneOf (N : Nat) (od_tired : Int32) (od_quarters : Nat → Int32) (p1 : Int32) (p2 : Int32) : Option (Int64) :=
  lc (fun (z5 : Int64) => bd (f_X2_waysOf p1 p2) fun v8 =>
  some (v8 - z5)) (fun k4 =>
  f_X2_waysOneOf_L5 od_tired od_quarters p1 p2 N k4 N (1 : Int64) (0 : Int32))
def f_X2_drawShots_L21 (od_tired : Int32) (od_quarters : Nat → Int32) (p3 : Int32) (y3 : Int32) (k11 : Int32 → Int32 → Option (Int32)) : Nat → Int32 → Int32 → Int32 → Option (Int32)
  | 0, _, _, _ => none
  | n + 1, y7, y8, y9 =>
    if p3 ≤ y9 then
    k11 y7 y8
    else
    bd (irm (((75 : Int32) * y7) + (74 : Int32)) (65537 : Int32)) fun v14 =>
    bd (irm v14 (4 : Int32)) fun v15 =>
    bd (f_X2_quartersIn od_tired od_quarters y3 y9) fun v16 =>
    lc (fun (x18 : Int32) => f_X2_drawShots_L21 od_tired od_quarters p3 y3 k11 n v14 x18 (y9 + (1 : Int32))) (fun k17 =>
    if v16 ≤ v15 then
    k17 y8
    else
    k17 (0 : Int32))
def f_X2_drawShots_L9 (od_tired : Int32) (od_quarters : Nat → Int32) (p2 : Int32) (p3 : Int32) (N : Nat) (k5 : Int32 → Option (Int32)) : Nat → Int32 → Int32 → Int32 → Option (Int32)
  | 0, _, _, _ => none
  | n + 1, y1, y2, y3 =>
    if p2 ≤ y3 then
    k5 y1
    else
    lc (fun (z12 : Int32) (z13 : Int32) => lc (fun (x20 : Int32) => f_X2_drawShots_L9 od_tired od_quarters p2 p3 N k5 n x20 z12 (y3 + (1 : Int32))) (fun k19 =>
    if z13 = 0 then
    k19 y1
    else
    k19 (y1 ||| ((1 : Int32) <<< (y3 &&& 31))))) (fun k11 =>
    f_X2_drawShots_L21 od_tired od_quarters p3 y3 k11 N y2 (1 : Int32) (0 : Int32))
def f_X2_drawShots (N : Nat) (od_tired : Int32) (od_quarters : Nat → Int32) (p1 : Int32) (p2 : Int32) (p3 : Int32) : Option (Int32) :=
  lc (fun (z6 : Int32) => some z6) (fun k5 =>
  f_X2_drawShots_L9 od_tired od_quarters p2 p3 N k5 N (0 : Int32) p1 (0 : Int32))
def f_X7_startPeople_L2 (k4 : (Nat → Int32) → Option (Int32 × (Nat → Int32) × (Nat → Int32))) : Nat → Int32 → (Nat → Int32) → Option (Int32 × (Nat → Int32) × (Nat → Int32))
  | 0, _, _ => none
  | n + 1, y1, st_talls_2 =>
    if (8 : Int32) ≤ y1 then
    k4 st_talls_2
    else
    bd (sti st_talls_2 8 y1 (170 : Int32)) fun st_talls_6 =>
    f_X7_startPeople_L2 k4 n (y1 + (1 : Int32)) st_talls_6
def f_X7_startPeople_L25 (k10 : (Nat → Int32) → Option (Int32 × (Nat → Int32) × (Nat → Int32))) : Nat → Int32 → (Nat → Int32) → Option (Int32 × (Nat → Int32) × (Nat → Int32))
  | 0, _, _ => none
  | n + 1, y7, st_pairs_8 =>
    if (64 : Int32) ≤ y7 then
    k10 st_pairs_8
    else
    bd (sti st_pairs_8 64 y7 (0 : Int32)) fun st_pairs_12 =>
    f_X7_startPeople_L25 k10 n (y7 + (1 : Int32)) st_pairs_12
def f_X7_startPeople (N : Nat) (st_talls : Nat → Int32) (st_pairs : Nat → Int32) : Option (Int32 × (Nat → Int32) × (Nat → Int32)) :=
  lc (fun (st_talls_5 : Nat → Int32) => lc (fun (st_pairs_11 : Nat → Int32) => some ((1 : Int32), st_talls_5, st_pairs_11)) (fun k10 =>
  f_X7_startPeople_L25 k10 N (0 : Int32) st_pairs)) (fun k4 =>
  f_X7_startPeople_L2 k4 N (0 : Int32) st_talls)
def f_X7_copyFrom (st_talls : Nat → Int32) (st_pairs : Nat → Int32) (st2_rows : Int32) (st2_columns : Int32) (st2_rise : Int32) (st2_talls : Nat → Int32) (st2_pairs : Nat → Int32) : Option (Int32 × Int32 × Int32 × Int32 × (Nat → Int32) × (Nat → Int32)) :=
  some (st2_rows, st2_columns, st2_rise, (1 : Int32), (va_cpy st2_talls st_talls 0 0 8), (va_cpy st2_pairs st_pairs 0 0 64))
def f_X7_places (st_rows : Int32) (st_columns : Int32) : Option (Int32) :=
  some (st_rows * st_columns)
def f_X7_tallOf (st_talls : Nat → Int32) (p1 : Int32) : Option (Int32) :=
  bd (ld st_talls 8 p1) fun v1 =>
  some v1
def f_X7_build (p1 : Int32) (p2 : Int32) : Option (Int32 × Int32 × Int32 × Int32) :=
  bd (f_X7_places p1 p2) fun v1 =>
  some (v1, p1, p2, (1 : Int32))
def f_X7_changeRise (st_rise : Int32) (p1 : Int32) : Option (Int32 × Int32 × Int32) :=
  some (st_rise, p1, (1 : Int32))
def f_X7_changeTall (st_talls : Nat → Int32) (p1 : Int32) (p2 : Int32) : Option (Int32 × Int32 × (Nat → Int32)) :=
  bd (ld st_talls 8 p1) fun v1 =>
  bd (sti st_talls 8 p1 p2) fun st_talls_2 =>
  some (v1, (1 : Int32), st_talls_2)
def f_X7_changePair (st_pairs : Nat → Int32) (p1 : Int32) (p2 : Int32) (p3 : Int32) : Option (Int32 × Int32 × (Nat → Int32)) :=
  bd (ld st_pairs 64 ((p1 * (8 : Int32)) + p2)) fun v1 =>
  bd (sti st_pairs 64 ((p1 * (8 : Int32)) + p2) p3) fun st_pairs_2 =>
  bd (sti st_pairs_2 64 ((p2 * (8 : Int32)) + p1) p3) fun st_pairs_3 =>
  some (v1, (1 : Int32), st_pairs_3)
def f_X7_rowOf (st_columns : Int32) (p1 : Int32) : Option (Int32) :=
  if (1 : Int32) ≤ st_columns then
  bd (idv p1 st_columns) fun v1 =>
  some v1
  else
  some (0 : Int32)
def f_X7_columnOf (st_columns : Int32) (p1 : Int32) : Option (Int32) :=
  if (1 : Int32) ≤ st_columns then
  bd (irm p1 st_columns) fun v1 =>
  some v1
  else
  some (0 : Int32)
def f_X7_isHidden (st_columns : Int32) (st_rise : Int32) (st_talls : Nat → Int32) (p1 : Int32) (p2 : Int32) (p3 : Int32) (p4 : Int32) : Option (Int32) :=
  bd (f_X7_columnOf st_columns p2) fun v1 =>
  bd (f_X7_columnOf st_columns p4) fun v2 =>
  if v1 = v2 then
  bd (f_X7_rowOf st_columns p2) fun v3 =>
  bd (f_X7_rowOf st_columns p4) fun v4 =>
  if v4 < v3 then
  bd (ld st_talls 8 p1) fun v5 =>
  bd (ld st_talls 8 p3) fun v6 =>
  if (v6 + (st_rise * v4)) < (v5 + (st_rise * v3)) then
  some (0 : Int32)
  else
  some (1 : Int32)
  else
  some (0 : Int32)
  else
  some (0 : Int32)
def f_X7_areNeighbours (st_columns : Int32) (p1 : Int32) (p2 : Int32) : Option (Int32) :=
  bd (f_X7_rowOf st_columns p1) fun v1 =>
  bd (f_X7_rowOf st_columns p2) fun v2 =>
  bd (f_X7_columnOf st_columns p1) fun v3 =>
  bd (f_X7_columnOf st_columns p2) fun v4 =>
  if ((iabs (v1 - v2)) + (iabs (v3 - v4))) = (1 : Int32) then
  some (1 : Int32)
  else
  some (0 : Int32)
def f_X7_wrongBetween (st_columns : Int32) (st_rise : Int32) (st_talls : Nat → Int32) (st_pairs : Nat → Int32) (p1 : Int32) (p2 : Int32) (p3 : Int32) (p4 : Int32) : Option (Int32) :=
  bd (f_X7_isHidden st_columns st_rise st_talls p1 p2 p3 p4) fun v1 =>
  if v1 = 0 then
  bd (ld st_pairs 64 ((p1 * (8 : Int32)) + p3)) fun v2 =>
  if v2 = 0 then
  some (0 : Int32)
  else
  bd (f_X7_areNeighbours st_columns p2 p4) fun v3 =>
  lc (if v2 = (2 : Int32) then
  if v3 = 0 then
  some (3 : Int32)
  else
  some (0 : Int32)
  else
  some (0 : Int32)) (fun k4 =>
  if v2 = (1 : Int32) then
  if v3 = 0 then
  k4
  else
  some (2 : Int32)
  else
  k4)
  else
  some (1 : Int32)
def f_X7_suits (st_columns : Int32) (st_rise : Int32) (st_talls : Nat → Int32) (st_pairs : Nat → Int32) (p1 : Int32) (p2 : Int32) (p3 : Int32) (p4 : Int32) : Option (Int32) :=
  if p2 = p4 then
  some (0 : Int32)
  else
  bd (f_X7_wrongBetween st_columns st_rise st_talls st_pairs p1 p2 p3 p4) fun v1 =>
  if v1 = 0 then
  bd (f_X7_wrongBetween st_columns st_rise st_talls st_pairs p3 p4 p1 p2) fun v2 =>
  if v2 = 0 then
  some (1 : Int32)
  else
  some (0 : Int32)
  else
  some (0 : Int32)
def f_X7_wrongFor_L6 (st_columns : Int32) (st_rise : Int32) (st_talls : Nat → Int32) (st_pairs : Nat → Int32) (ar : Nat → Int32) (p1 : Int32) (p3 : Int32) (k4 : Int32 → Option (Int32)) : Nat → Int32 → Int32 → Option (Int32)
  | 0, _, _ => none
  | n + 1, y1, y2 =>
    if p3 ≤ y2 then
    k4 y1
    else
    if (8 : Int32) ≤ y2 then
    k4 y1
    else
    lc (fun (x11 : Int32) => f_X7_wrongFor_L6 st_columns st_rise st_talls st_pairs ar p1 p3 k4 n x11 (y2 + (1 : Int32))) (fun k6 =>
    if y2 = p1 then
    k6 y1
    else
    bd (ld ar 8 p1) fun v7 =>
    bd (ld ar 8 y2) fun v8 =>
    bd (f_X7_wrongBetween st_columns st_rise st_talls st_pairs p1 v7 y2 v8) fun v9 =>
    if v9 = 0 then
    k6 y1
    else
    lc (k6 v9) (fun k10 =>
    if y1 = 0 then
    k10
    else
    if y1 ≤ v9 then
    k6 y1
    else
    k10))
def f_X7_wrongFor (N : Nat) (st_columns : Int32) (st_rise : Int32) (st_talls : Nat → Int32) (st_pairs : Nat → Int32) (ar : Nat → Int32) (p1 : Int32) (p3 : Int32) : Option (Int32) :=
  lc (fun (z5 : Int32) => some z5) (fun k4 =>
  f_X7_wrongFor_L6 st_columns st_rise st_talls st_pairs ar p1 p3 k4 N (0 : Int32) (0 : Int32))
def f_X7_firstWrong_L2 (st_columns : Int32) (st_rise : Int32) (st_talls : Nat → Int32) (st_pairs : Nat → Int32) (ar : Nat → Int32) (p2 : Int32) (N : Nat) (k3 : Option (Int32)) : Nat → Int32 → Option (Int32)
  | 0, _ => none
  | n + 1, y1 =>
    if p2 ≤ y1 then
    k3
    else
    bd (f_X7_wrongFor N st_columns st_rise st_talls st_pairs ar y1 p2) fun v4 =>
    if v4 = 0 then
    f_X7_firstWrong_L2 st_columns st_rise st_talls st_pairs ar p2 N k3 n (y1 + (1 : Int32))
    else
    some y1
def f_X7_firstWrong (N : Nat) (st_columns : Int32) (st_rise : Int32) (st_talls : Nat → Int32) (st_pairs : Nat → Int32) (ar : Nat → Int32) (p2 : Int32) : Option (Int32) :=
  lc (some (-6 : Int32)) (fun k3 =>
  f_X7_firstWrong_L2 st_columns st_rise st_talls st_pairs ar p2 N k3 N (0 : Int32))
def f_X4_bitOf (p1 : Int32) (p2 : Int32) : Option (Int64) :=
  some ((1 : Int64) <<< (Int32.toInt64 ((p1 * (8 : Int32)) + p2) &&& 63))
def f_X4_firstOf (pw_first : Nat → Int32) (p1 : Int32) : Option (Int32) :=
  bd (ld pw_first 8 p1) fun v1 =>
  some v1
def f_X4_noteFirst (pw_first : Nat → Int32) (p1 : Int32) (p2 : Int32) : Option ((Nat → Int32)) :=
  bd (ld pw_first 8 p1) fun v1 =>
  if v1 = (-6 : Int32) then
  bd (sti pw_first 8 p1 p2) fun pw_first_2 =>
  some pw_first_2
  else
  some pw_first
def f_X4_leftBehind_L20 (st_rows : Int32) (st_columns : Int32) (st_rise : Int32) (st_talls : Nat → Int32) (st_pairs : Nat → Int32) (p2 : Int32) (p3 : Int32) (y2 : Int32) (k9 : Int64 → Option (Int64)) : Nat → Int64 → Int32 → Option (Int64)
  | 0, _, _ => none
  | n + 1, y6, y7 =>
    bd (f_X7_places st_rows st_columns) fun v11 =>
    if v11 ≤ y7 then
    k9 y6
    else
    bd (f_X7_suits st_columns st_rise st_talls st_pairs p2 p3 y2 y7) fun v12 =>
    lc (fun (x15 : Int64) => f_X4_leftBehind_L20 st_rows st_columns st_rise st_talls st_pairs p2 p3 y2 k9 n x15 (y7 + (1 : Int32))) (fun k13 =>
    if v12 = 0 then
    k13 y6
    else
    bd (f_X4_bitOf y2 y7) fun v14 =>
    k13 (y6 ||| v14))
def f_X4_leftBehind_L8 (pw_people : Int32) (st_rows : Int32) (st_columns : Int32) (st_rise : Int32) (st_talls : Nat → Int32) (st_pairs : Nat → Int32) (p2 : Int32) (p3 : Int32) (N : Nat) (k4 : Int64 → Option (Int64)) : Nat → Int64 → Int32 → Option (Int64)
  | 0, _, _ => none
  | n + 1, y1, y2 =>
    if pw_people ≤ y2 then
    k4 y1
    else
    lc (fun (z10 : Int64) => f_X4_leftBehind_L8 pw_people st_rows st_columns st_rise st_talls st_pairs p2 p3 N k4 n z10 (y2 + (1 : Int32))) (fun k9 =>
    f_X4_leftBehind_L20 st_rows st_columns st_rise st_talls st_pairs p2 p3 y2 k9 N y1 (0 : Int32))
def f_X4_leftBehind (N : Nat) (pw_people : Int32) (st_rows : Int32) (st_columns : Int32) (st_rise : Int32) (st_talls : Nat → Int32) (st_pairs : Nat → Int32) (p2 : Int32) (p3 : Int32) : Option (Int64) :=
  lc (fun (z5 : Int64) => some z5) (fun k4 =>
  f_X4_leftBehind_L8 pw_people st_rows st_columns st_rise st_talls st_pairs p2 p3 N k4 N (0 : Int64) (p2 + (1 : Int32)))
def f_X4_allPlaces_L17 (st_rows : Int32) (st_columns : Int32) (y2 : Int32) (k9 : Int64 → Option (Int64)) : Nat → Int64 → Int32 → Option (Int64)
  | 0, _, _ => none
  | n + 1, y6, y7 =>
    bd (f_X7_places st_rows st_columns) fun v11 =>
    if v11 ≤ y7 then
    k9 y6
    else
    bd (f_X4_bitOf y2 y7) fun v12 =>
    f_X4_allPlaces_L17 st_rows st_columns y2 k9 n (y6 ||| v12) (y7 + (1 : Int32))
def f_X4_allPlaces_L5 (pw_people : Int32) (st_rows : Int32) (st_columns : Int32) (N : Nat) (k4 : Int64 → Option (Int64)) : Nat → Int64 → Int32 → Option (Int64)
  | 0, _, _ => none
  | n + 1, y1, y2 =>
    if pw_people ≤ y2 then
    k4 y1
    else
    lc (fun (z10 : Int64) => f_X4_allPlaces_L5 pw_people st_rows st_columns N k4 n z10 (y2 + (1 : Int32))) (fun k9 =>
    f_X4_allPlaces_L17 st_rows st_columns y2 k9 N y1 (0 : Int32))
def f_X4_allPlaces (N : Nat) (pw_people : Int32) (st_rows : Int32) (st_columns : Int32) : Option (Int64) :=
  lc (fun (z5 : Int64) => some z5) (fun k4 =>
  f_X4_allPlaces_L5 pw_people st_rows st_columns N k4 N (0 : Int64) (0 : Int32))
def f_X4_countFrom_L64 (pw_leaves : Nat → Int64) (pw_people : Int32) (p2 : Int32) (p3 : Int64) (rc : (Nat → Int64) → (Nat → Int32) → (Int32) → Int32 → Int64 → Option (Int32 × (Nat → Int32))) (k5 : Int32 → (Nat → Int32) → Option (Int32 × (Nat → Int32))) : Nat → Int32 → Int32 → (Nat → Int32) → Option (Int32 × (Nat → Int32))
  | 0, _, _, _ => none
  | n + 1, y1, y2, pw_first_3 =>
    if (8 : Int32) ≤ y2 then
    k5 y1 pw_first_3
    else
    lc (fun (x15 : Int32) (pw_first_16 : Nat → Int32) => f_X4_countFrom_L64 pw_leaves pw_people p2 p3 rc k5 n x15 (y2 + (1 : Int32)) pw_first_16) (fun k8 =>
    if ((((Int64.toInt32 ((Int64.toUInt64 p3 >>> (Int64.toUInt64 (Int32.toInt64 (p2 * (8 : Int32))) &&& Int64.toUInt64 63)).toInt64)) &&& (255 : Int32)) >>> (y2 &&& 31)) &&& (1 : Int32)) = 0 then
    k8 y1 pw_first_3
    else
    bd (ld pw_leaves 64 ((p2 * (8 : Int32)) + y2)) fun v9 =>
    bd (rc pw_leaves pw_first_3 pw_people (p2 + (1 : Int32)) (p3 &&& v9)) fun ⟨v10, pw_first_11⟩ =>
    lc (fun (pw_first_14 : Nat → Int32) => k8 (y1 + v10) pw_first_14) (fun k12 =>
    if v10 ≤ 0 then
    k12 pw_first_11
    else
    bd (f_X4_noteFirst pw_first_11 p2 y2) fun pw_first_13 =>
    k12 pw_first_13))
def g_X4_countFrom (rc : (Nat → Int64) → (Nat → Int32) → (Int32) → Int32 → Int64 → Option (Int32 × (Nat → Int32))) (N : Nat) (pw_leaves : Nat → Int64) (pw_first : Nat → Int32) (pw_people : Int32) (p2 : Int32) (p3 : Int64) : Option (Int32 × (Nat → Int32)) :=
  if p2 < 0 then
  some ((1 : Int32), pw_first)
  else
  if p2 < pw_people then
  if p2 = (pw_people - (1 : Int32)) then
  lc (fun (pw_first_20 : Nat → Int32) => bd (f_J6_bitCount_0f7a4 ((Int64.toInt32 ((Int64.toUInt64 p3 >>> (Int64.toUInt64 (Int32.toInt64 (p2 * (8 : Int32))) &&& Int64.toUInt64 63)).toInt64)) &&& (255 : Int32))) fun v21 =>
  some (v21, pw_first_20)) (fun k17 =>
  if ((Int64.toInt32 ((Int64.toUInt64 p3 >>> (Int64.toUInt64 (Int32.toInt64 (p2 * (8 : Int32))) &&& Int64.toUInt64 63)).toInt64)) &&& (255 : Int32)) = 0 then
  k17 pw_first
  else
  bd (f_J6_numberOfTrailingZeros_0f7a4 ((Int64.toInt32 ((Int64.toUInt64 p3 >>> (Int64.toUInt64 (Int32.toInt64 (p2 * (8 : Int32))) &&& Int64.toUInt64 63)).toInt64)) &&& (255 : Int32))) fun v18 =>
  bd (f_X4_noteFirst pw_first p2 v18) fun pw_first_19 =>
  k17 pw_first_19)
  else
  lc (fun (z6 : Int32) (pw_first_7 : Nat → Int32) => some (z6, pw_first_7)) (fun k5 =>
  f_X4_countFrom_L64 pw_leaves pw_people p2 p3 rc k5 N (0 : Int32) (0 : Int32) pw_first)
  else
  some ((1 : Int32), pw_first)
def f_X4_countFrom (N : Nat) : Nat → (Nat → Int64) → (Nat → Int32) → (Int32) → Int32 → Int64 → Option (Int32 × (Nat → Int32))
  | 0 => fun _ _ _ _ _ => none
  | d + 1 => fun pw_leaves pw_first pw_people p2 p3 => g_X4_countFrom (f_X4_countFrom N d) N pw_leaves pw_first pw_people p2 p3
def f_X4_solve_L20 (k4 : (Nat → Int32) → Option (Int32 × Int32 × (Nat → Int64) × (Nat → Int32) × Int32)) : Nat → Int32 → (Nat → Int32) → Option (Int32 × Int32 × (Nat → Int64) × (Nat → Int32) × Int32)
  | 0, _, _ => none
  | n + 1, y1, pw_first_2 =>
    if (8 : Int32) ≤ y1 then
    k4 pw_first_2
    else
    bd (sti pw_first_2 8 y1 (-6 : Int32)) fun pw_first_6 =>
    f_X4_solve_L20 k4 n (y1 + (1 : Int32)) pw_first_6
def f_X4_solve_L53 (st_rows : Int32) (st_columns : Int32) (st_rise : Int32) (st_talls : Nat → Int32) (st_pairs : Nat → Int32) (p2 : Int32) (y7 : Int32) (N : Nat) (k15 : (Nat → Int64) → Option (Int32 × Int32 × (Nat → Int64) × (Nat → Int32) × Int32)) : Nat → Int32 → (Nat → Int64) → Option (Int32 × Int32 × (Nat → Int64) × (Nat → Int32) × Int32)
  | 0, _, _ => none
  | n + 1, y12, pw_leaves_13 =>
    bd (f_X7_places st_rows st_columns) fun v17 =>
    if v17 ≤ y12 then
    k15 pw_leaves_13
    else
    bd (f_X4_leftBehind N p2 st_rows st_columns st_rise st_talls st_pairs y7 y12) fun v18 =>
    bd (stl pw_leaves_13 64 ((y7 * (8 : Int32)) + y12) v18) fun pw_leaves_19 =>
    f_X4_solve_L53 st_rows st_columns st_rise st_talls st_pairs p2 y7 N k15 n (y12 + (1 : Int32)) pw_leaves_19
def f_X4_solve_L42 (st_rows : Int32) (st_columns : Int32) (st_rise : Int32) (st_talls : Nat → Int32) (st_pairs : Nat → Int32) (p2 : Int32) (N : Nat) (k10 : (Nat → Int64) → Option (Int32 × Int32 × (Nat → Int64) × (Nat → Int32) × Int32)) : Nat → Int32 → (Nat → Int64) → Option (Int32 × Int32 × (Nat → Int64) × (Nat → Int32) × Int32)
  | 0, _, _ => none
  | n + 1, y7, pw_leaves_8 =>
    if p2 ≤ y7 then
    k10 pw_leaves_8
    else
    lc (fun (pw_leaves_16 : Nat → Int64) => f_X4_solve_L42 st_rows st_columns st_rise st_talls st_pairs p2 N k10 n (y7 + (1 : Int32)) pw_leaves_16) (fun k15 =>
    f_X4_solve_L53 st_rows st_columns st_rise st_talls st_pairs p2 y7 N k15 N (0 : Int32) pw_leaves_8)
def f_X4_solve (N : Nat) (pw_leaves : Nat → Int64) (pw_first : Nat → Int32) (pw_people : Int32) (pw_count : Int32) (st_rows : Int32) (st_columns : Int32) (st_rise : Int32) (st_talls : Nat → Int32) (st_pairs : Nat → Int32) (st_changed : Int32) (p2 : Int32) : Option (Int32 × Int32 × (Nat → Int64) × (Nat → Int32) × Int32) :=
  if st_changed = 0 then
  some (pw_people, pw_count, pw_leaves, pw_first, st_changed)
  else
  lc (fun (pw_first_5 : Nat → Int32) => lc (fun (pw_leaves_11 : Nat → Int64) => bd (f_X4_allPlaces N p2 st_rows st_columns) fun v20 =>
  bd (f_X4_countFrom N 9 pw_leaves_11 pw_first_5 p2 (0 : Int32) v20) fun ⟨v21, pw_first_22⟩ =>
  some (p2, v21, pw_leaves_11, pw_first_22, (0 : Int32))) (fun k10 =>
  f_X4_solve_L42 st_rows st_columns st_rise st_talls st_pairs p2 N k10 N (0 : Int32) pw_leaves)) (fun k4 =>
  f_X4_solve_L20 k4 N (0 : Int32) pw_first)
def f_X5_has (sc_people : Int32) (p1 : Int32) : Option (Int32) :=
  if p1 < 0 then
  some (0 : Int32)
  else
  if sc_people ≤ p1 then
  some (0 : Int32)
  else
  some (1 : Int32)
def f_X5_everybody (sc_people : Int32) : Option (Int32) :=
  some (((1 : Int32) <<< (sc_people &&& 31)) - (1 : Int32))
def f_X5_gather (N : Nat) (sc_people : Int32) (bl_settings : Nat → Int32) (od_quarters : Nat → Int32) (st_talls : Nat → Int32) (st_pairs : Nat → Int32) (p1 : Int32) : Option (Int32 × Int32 × Int32 × Int32 × Int32 × (Nat → Int32) × (Nat → Int32) × Int32 × (Nat → Int32) × (Nat → Int32)) :=
  bd (f_X6_startPeople) fun ⟨sh_count_1, sh_hands_2⟩ =>
  bd (f_X0_startPeople N bl_settings) fun bl_settings_3 =>
  bd (f_X2_startPeople N od_quarters) fun od_quarters_4 =>
  bd (f_X7_startPeople N st_talls st_pairs) fun ⟨st_changed_5, st_talls_6, st_pairs_7⟩ =>
  some (sc_people, p1, (-6 : Int32), sh_count_1, sh_hands_2, bl_settings_3, od_quarters_4, st_changed_5, st_talls_6, st_pairs_7)
def f_X5_copyFrom (sh_looks : Nat → Int32) (sh_openBits : Nat → Int32) (bl_settings : Nat → Int32) (od_quarters : Nat → Int32) (st_talls : Nat → Int32) (st_pairs : Nat → Int32) (sc2_people : Int32) (sc2_bride : Int32) (sh2_count : Int32) (sh2_hands : Int32) (sh2_looks : Nat → Int32) (sh2_openBits : Nat → Int32) (bl2_flash : Int32) (bl2_settings : Nat → Int32) (od2_tired : Int32) (od2_quarters : Nat → Int32) (st2_rows : Int32) (st2_columns : Int32) (st2_rise : Int32) (st2_talls : Nat → Int32) (st2_pairs : Nat → Int32) : Option (Int32 × Int32 × Int32 × Int32 × (Nat → Int32) × (Nat → Int32) × Int32 × (Nat → Int32) × Int32 × (Nat → Int32) × Int32 × Int32 × Int32 × Int32 × (Nat → Int32) × (Nat → Int32)) :=
  bd (f_X6_copyFrom sh_looks sh_openBits sh2_count sh2_hands sh2_looks sh2_openBits) fun ⟨sh_count_1, sh_hands_2, sh_looks_3, sh_openBits_4⟩ =>
  bd (f_X0_copyFrom bl_settings bl2_flash bl2_settings) fun ⟨bl_flash_5, bl_settings_6⟩ =>
  bd (f_X2_copyFrom od_quarters od2_tired od2_quarters) fun ⟨od_tired_7, od_quarters_8⟩ =>
  bd (f_X7_copyFrom st_talls st_pairs st2_rows st2_columns st2_rise st2_talls st2_pairs) fun ⟨st_rows_9, st_columns_10, st_rise_11, st_changed_12, st_talls_13, st_pairs_14⟩ =>
  some (sc2_people, sc2_bride, sh_count_1, sh_hands_2, sh_looks_3, sh_openBits_4, bl_flash_5, bl_settings_6, od_tired_7, od_quarters_8, st_rows_9, st_columns_10, st_rise_11, st_changed_12, st_talls_13, st_pairs_14)
def f_X8_standingFault (N : Nat) (pa_signs : Nat → Int32) (pa_count : Int32) (sc_people : Int32) (st_rows : Int32) (st_columns : Int32) : Option (Int32) :=
  bd (f_X7_places st_rows st_columns) fun v1 =>
  bd (f_X3_faultAsStanding N pa_signs pa_count sc_people v1) fun v2 =>
  some v2
def f_X8_people (N : Nat) (sc_people : Int32) (sc_bride : Int32) (sh_count : Int32) (sh_hands : Int32) (bl_settings : Nat → Int32) (od_quarters : Nat → Int32) (st_talls : Nat → Int32) (st_pairs : Nat → Int32) (st_changed : Int32) (p1 : Int32) : Option (Int32 × Int32 × Int32 × Int32 × Int32 × (Nat → Int32) × (Nat → Int32) × Int32 × (Nat → Int32) × (Nat → Int32)) :=
  bd (f_X8_within p1 (1 : Int32) (8 : Int32)) fun v1 =>
  if v1 = 0 then
  some ((-2 : Int32), sc_people, sc_bride, sh_count, sh_hands, bl_settings, od_quarters, st_changed, st_talls, st_pairs)
  else
  bd (f_X5_gather N sc_people bl_settings od_quarters st_talls st_pairs p1) fun ⟨v2, sc_people_3, sc_bride_4, sh_count_5, sh_hands_6, bl_settings_7, od_quarters_8, st_changed_9, st_talls_10, st_pairs_11⟩ =>
  some (v2, sc_people_3, sc_bride_4, sh_count_5, sh_hands_6, bl_settings_7, od_quarters_8, st_changed_9, st_talls_10, st_pairs_11)
def f_X8_bride (sc_people : Int32) (sc_bride : Int32) (p1 : Int32) : Option (Int32 × Int32) :=
  lc (lc (fun (x4 : Int32) => some (sc_bride, x4)) (fun k3 =>
  if p1 = (-1 : Int32) then
  k3 (-6 : Int32)
  else
  k3 p1)) (fun k1 =>
  if p1 = (-1 : Int32) then
  k1
  else
  bd (f_X5_has sc_people p1) fun v2 =>
  if v2 = 0 then
  some ((-1 : Int32), sc_bride)
  else
  k1)
def f_X8_say (pa_signs : Nat → Int32) (pa_count : Int32) (p1 : Int32) : Option (Int32 × Int32 × (Nat → Int32)) :=
  bd (f_X8_within p1 (33 : Int32) (126 : Int32)) fun v1 =>
  if v1 = 0 then
  some ((-2 : Int32), pa_count, pa_signs)
  else
  bd (f_X3_isFull pa_count) fun v2 =>
  if v2 = 0 then
  bd (f_X3_add pa_signs pa_count p1) fun ⟨v3, pa_count_4, pa_signs_5⟩ =>
  some (v3, pa_count_4, pa_signs_5)
  else
  some ((-4 : Int32), pa_count, pa_signs)
def f_X8_wipe (pa_count : Int32) : Option (Int32 × Int32) :=
  bd (f_X3_clear pa_count) fun ⟨v1, pa_count_2⟩ =>
  some (v1, pa_count_2)
def f_X8_fault (N : Nat) (pa_signs : Nat → Int32) (pa_count : Int32) (sc_people : Int32) (st_rows : Int32) (st_columns : Int32) (p1 : Int32) : Option (Int32) :=
  bd (f_X8_within p1 (0 : Int32) (1 : Int32)) fun v1 =>
  if v1 = 0 then
  some (-2 : Int32)
  else
  if p1 = 0 then
  bd (f_X3_faultAsShot N pa_signs pa_count sc_people) fun v3 =>
  some v3
  else
  bd (f_X8_standingFault N pa_signs pa_count sc_people st_rows st_columns) fun v2 =>
  some v2
def f_X8_shot (N : Nat) (pa_signs : Nat → Int32) (pa_count : Int32) (sc_people : Int32) (sh_count : Int32) (sh_looks : Nat → Int32) (sh_openBits : Nat → Int32) : Option (Int32 × Int32 × Int32 × (Nat → Int32) × (Nat → Int32)) :=
  bd (f_X3_faultAsShot N pa_signs pa_count sc_people) fun v1 =>
  if v1 = (-6 : Int32) then
  bd (f_X6_isFull sh_count) fun v2 =>
  if v2 = 0 then
  bd (f_X6_take N sh_count sh_looks sh_openBits pa_signs pa_count sc_people) fun ⟨v3, sh_count_4, sh_looks_5, sh_openBits_6⟩ =>
  bd (f_X3_clear pa_count) fun ⟨v7, pa_count_8⟩ =>
  some (v3, pa_count_8, sh_count_4, sh_looks_5, sh_openBits_6)
  else
  some ((-4 : Int32), pa_count, sh_count, sh_looks, sh_openBits)
  else
  some ((-5 : Int32), pa_count, sh_count, sh_looks, sh_openBits)
def f_X8_look (sc_people : Int32) (sh_count : Int32) (sh_looks : Nat → Int32) (p1 : Int32) (p2 : Int32) : Option (Int32) :=
  bd (f_X6_has sh_count p1) fun v1 =>
  if v1 = 0 then
  some (-1 : Int32)
  else
  bd (f_X5_has sc_people p2) fun v2 =>
  if v2 = 0 then
  some (-1 : Int32)
  else
  bd (f_X6_lookOf sh_looks p1 p2) fun v3 =>
  some v3
def f_X8_single (N : Nat) (sc_people : Int32) (sc_bride : Int32) (sh_count : Int32) (sh_looks : Nat → Int32) (sh_openBits : Nat → Int32) (p1 : Int32) : Option (Int32) :=
  bd (f_X8_within p1 (0 : Int32) (1 : Int32)) fun v1 =>
  if v1 = 0 then
  some (-2 : Int32)
  else
  bd (f_X6_bestSingle N sh_count sh_looks sh_openBits sc_people sc_bride) fun v2 =>
  if v2 = (-6 : Int32) then
  some v2
  else
  if p1 = 0 then
  some v2
  else
  bd (f_X5_everybody sc_people) fun v3 =>
  bd (f_X6_badIn sh_openBits v2 v3) fun v4 =>
  some v4
def f_X8_cover (N : Nat) (sc_people : Int32) (sh_count : Int32) (sh_openBits : Nat → Int32) : Option (Int32) :=
  bd (f_X5_everybody sc_people) fun v1 =>
  bd (f_X6_leastCover N sh_count sh_openBits v1) fun v2 =>
  some v2
def f_X8_spoils (N : Nat) (sc_people : Int32) (sh_count : Int32) (sh_openBits : Nat → Int32) (p1 : Int32) : Option (Int32) :=
  bd (f_X8_within p1 (0 : Int32) (1 : Int32)) fun v1 =>
  if v1 = 0 then
  some (-2 : Int32)
  else
  bd (f_X6_worstPerson N sh_count sh_openBits sc_people) fun v2 =>
  if p1 = 0 then
  some v2
  else
  if v2 = (-6 : Int32) then
  some (0 : Int32)
  else
  bd (f_X6_timesBad N sh_count sh_openBits v2) fun v3 =>
  some v3
def f_X8_hands (sc_people : Int32) (sh_hands : Int32) (p1 : Int32) : Option (Int32 × Int32) :=
  bd (f_X5_everybody sc_people) fun v1 =>
  bd (f_X8_within p1 (0 : Int32) (v1 >>> ((1 : Int32) &&& 31))) fun v2 =>
  if v2 = 0 then
  some ((-2 : Int32), sh_hands)
  else
  some (sh_hands, p1)
def f_X8_heads (N : Nat) (sc_people : Int32) (sh_count : Int32) (sh_hands : Int32) (sh_openBits : Nat → Int32) (hw_cutsFrom : Nat → Int32) (hw_chosen : Nat → Int32) (p1 : Int32) : Option (Int32 × (Nat → Int32) × (Nat → Int32)) :=
  lc (bd (f_X1_solve N hw_cutsFrom hw_chosen sh_count sh_hands sh_openBits sc_people) fun ⟨v3, hw_cutsFrom_4, hw_chosen_5⟩ =>
  if v3 = (-6 : Int32) then
  some (v3, hw_cutsFrom_4, hw_chosen_5)
  else
  if p1 = (-1 : Int32) then
  some (v3, hw_cutsFrom_4, hw_chosen_5)
  else
  bd (f_X1_shotOf hw_chosen_5 p1) fun v6 =>
  some (v6, hw_cutsFrom_4, hw_chosen_5)) (fun k1 =>
  if p1 = (-1 : Int32) then
  k1
  else
  bd (f_X5_has sc_people p1) fun v2 =>
  if v2 = 0 then
  some ((-6 : Int32), hw_cutsFrom, hw_chosen)
  else
  k1)
def f_X8_left (N : Nat) (sc_people : Int32) (sh_count : Int32) (sh_hands : Int32) (sh_openBits : Nat → Int32) : Option (Int32) :=
  bd (f_X6_fewestLeft N sh_count sh_hands sh_openBits sc_people) fun v1 =>
  some v1
def f_X8_blink (sc_people : Int32) (bl_settings : Nat → Int32) (p1 : Int32) (p2 : Int32) (p3 : Int32) : Option (Int32 × (Nat → Int32)) :=
  bd (f_X5_has sc_people p1) fun v1 =>
  if v1 = 0 then
  some ((-1 : Int32), bl_settings)
  else
  bd (f_X0_fits bl_settings p1 p2 p3) fun v2 =>
  if v2 = 0 then
  some ((-2 : Int32), bl_settings)
  else
  bd (f_X0_change bl_settings p1 p2 p3) fun ⟨v3, bl_settings_4⟩ =>
  some (v3, bl_settings_4)
def f_X8_flash (bl_flash : Int32) (p1 : Int32) : Option (Int32 × Int32) :=
  bd (f_X8_within p1 (-1 : Int32) (999 : Int32)) fun v1 =>
  if v1 = 0 then
  some ((-2 : Int32), bl_flash)
  else
  some (bl_flash, p1)
def f_X8_open (N : Nat) (sc_people : Int32) (bl_flash : Int32) (bl_settings : Nat → Int32) (p1 : Int32) : Option (Int32) :=
  bd (f_X8_within p1 (0 : Int32) (999 : Int32)) fun v1 =>
  if v1 = 0 then
  some (-2 : Int32)
  else
  bd (f_X0_openAt N bl_flash bl_settings p1 sc_people) fun v2 =>
  some v2
def f_X8_fire (N : Nat) (sc_people : Int32) (bl_flash : Int32) (bl_settings : Nat → Int32) (p1 : Int32) (p2 : Int32) (p3 : Int32) : Option (Int32) :=
  bd (f_X8_within p1 (0 : Int32) (999 : Int32)) fun v1 =>
  lc (some (-2 : Int32)) (fun k2 =>
  if v1 = 0 then
  k2
  else
  bd (f_X8_within p2 p1 (999 : Int32)) fun v3 =>
  if v3 = 0 then
  k2
  else
  bd (f_X8_within p3 (0 : Int32) (2 : Int32)) fun v4 =>
  if v4 = 0 then
  some (-2 : Int32)
  else
  if p3 = (2 : Int32) then
  bd (f_X0_tenthsOfAll N bl_flash bl_settings p1 p2 sc_people) fun v8 =>
  some v8
  else
  bd (f_X0_bestTenth N bl_flash bl_settings p1 p2 sc_people) fun v5 =>
  if p3 = 0 then
  some v5
  else
  bd (f_X0_openAt N bl_flash bl_settings v5 sc_people) fun v6 =>
  bd (f_J6_bitCount_0f7a4 v6) fun v7 =>
  some v7)
def f_X8_bad (sc_people : Int32) (od_tired : Int32) (od_quarters : Nat → Int32) (p1 : Int32) (p2 : Int32) : Option (Int32 × Int32 × (Nat → Int32)) :=
  if p1 = (-1 : Int32) then
  bd (f_X8_within p2 (0 : Int32) (20 : Int32)) fun v5 =>
  if v5 = 0 then
  some ((-2 : Int32), od_tired, od_quarters)
  else
  bd (f_X2_changeTired od_tired p2) fun ⟨v6, od_tired_7⟩ =>
  some (v6, od_tired_7, od_quarters)
  else
  bd (f_X5_has sc_people p1) fun v1 =>
  if v1 = 0 then
  some ((-1 : Int32), od_tired, od_quarters)
  else
  bd (f_X8_within p2 (0 : Int32) (4 : Int32)) fun v2 =>
  if v2 = 0 then
  some ((-2 : Int32), od_tired, od_quarters)
  else
  bd (f_X2_changeQuarters od_quarters p1 p2) fun ⟨v3, od_quarters_4⟩ =>
  some (v3, od_tired, od_quarters_4)
def f_X8_likely (N : Nat) (sc_people : Int32) (od_tired : Int32) (od_quarters : Nat → Int32) (p1 : Int32) (p2 : Int32) : Option (Int64) :=
  bd (f_X8_within p1 (0 : Int32) (20 : Int32)) fun v1 =>
  lc (some (-1000000000000000002 : Int64)) (fun k2 =>
  if v1 = 0 then
  k2
  else
  bd (f_X8_within p2 (0 : Int32) (1 : Int32)) fun v3 =>
  if v3 = 0 then
  k2
  else
  bd (f_X2_waysAllOpen N od_tired od_quarters p1 sc_people) fun v4 =>
  bd (f_X2_waysOf (1 : Int32) sc_people) fun v5 =>
  bd (f_X8_lowest N v4 v5 p2) fun v6 =>
  some v6)
def f_X8_one (N : Nat) (sc_people : Int32) (od_tired : Int32) (od_quarters : Nat → Int32) (p1 : Int32) (p2 : Int32) : Option (Int64) :=
  bd (f_X8_within p1 (1 : Int32) (3 : Int32)) fun v1 =>
  lc (some (-1000000000000000002 : Int64)) (fun k2 =>
  if v1 = 0 then
  k2
  else
  bd (f_X8_within p2 (0 : Int32) (1 : Int32)) fun v3 =>
  if v3 = 0 then
  k2
  else
  bd (f_X2_waysOneOf N od_tired od_quarters p1 sc_people) fun v4 =>
  bd (f_X2_waysOf p1 sc_people) fun v5 =>
  bd (f_X8_lowest N v4 v5 p2) fun v6 =>
  some v6)
def f_X8_many_L24 (sc_people : Int32) (od_tired : Int32) (od_quarters : Nat → Int32) (p1 : Int32) (p2 : Int32) (N : Nat) (k6 : Option (Int32)) : Nat → Int32 → Option (Int32)
  | 0, _ => none
  | n + 1, y4 =>
    if (3 : Int32) < y4 then
    k6
    else
    bd (f_X2_waysOneOf N od_tired od_quarters y4 sc_people) fun v7 =>
    bd (f_X2_waysOf y4 sc_people) fun v8 =>
    if (lg_cmp (v7 * (Int32.toInt64 p2)) (v8 * (Int32.toInt64 p1))) < 0 then
    f_X8_many_L24 sc_people od_tired od_quarters p1 p2 N k6 n (y4 + (1 : Int32))
    else
    some y4
def f_X8_many (N : Nat) (sc_people : Int32) (od_tired : Int32) (od_quarters : Nat → Int32) (p1 : Int32) (p2 : Int32) : Option (Int32) :=
  bd (f_X8_within p2 (1 : Int32) (100 : Int32)) fun v1 =>
  lc (some (-2 : Int32)) (fun k2 =>
  if v1 = 0 then
  k2
  else
  bd (f_X8_within p1 (0 : Int32) p2) fun v3 =>
  if v3 = 0 then
  k2
  else
  lc (some (-6 : Int32)) (fun k6 =>
  f_X8_many_L24 sc_people od_tired od_quarters p1 p2 N k6 N (1 : Int32)))
def f_X8_shoot (N : Nat) (sc_people : Int32) (od_tired : Int32) (od_quarters : Nat → Int32) (p1 : Int32) (p2 : Int32) (p3 : Int32) : Option (Int32) :=
  bd (f_X8_within p1 (0 : Int32) (9999 : Int32)) fun v1 =>
  lc (some (-2 : Int32)) (fun k2 =>
  if v1 = 0 then
  k2
  else
  bd (f_X8_within p2 (1 : Int32) (30 : Int32)) fun v3 =>
  if v3 = 0 then
  k2
  else
  bd (f_X8_within p3 (0 : Int32) (1 : Int32)) fun v4 =>
  if v4 = 0 then
  some (-2 : Int32)
  else
  bd (f_X2_drawShots N od_tired od_quarters p1 p2 sc_people) fun v5 =>
  if p3 = (1 : Int32) then
  bd (f_J6_bitCount_0f7a4 v5) fun v7 =>
  some v7
  else
  if v5 = 0 then
  some (-6 : Int32)
  else
  bd (f_J6_numberOfTrailingZeros_0f7a4 v5) fun v6 =>
  some v6)
def f_X8_stair (st_rows : Int32) (st_columns : Int32) (st_changed : Int32) (p1 : Int32) (p2 : Int32) : Option (Int32 × Int32 × Int32 × Int32) :=
  bd (f_X8_within p1 (1 : Int32) (3 : Int32)) fun v1 =>
  lc (some ((-2 : Int32), st_rows, st_columns, st_changed)) (fun k2 =>
  if v1 = 0 then
  k2
  else
  bd (f_X8_within p2 (1 : Int32) (4 : Int32)) fun v3 =>
  if v3 = 0 then
  k2
  else
  if (p1 * p2) ≤ (8 : Int32) then
  bd (f_X7_build p1 p2) fun ⟨v4, st_rows_5, st_columns_6, st_changed_7⟩ =>
  some (v4, st_rows_5, st_columns_6, st_changed_7)
  else
  some ((-2 : Int32), st_rows, st_columns, st_changed))
def f_X8_tall (sc_people : Int32) (st_rise : Int32) (st_talls : Nat → Int32) (st_changed : Int32) (p1 : Int32) (p2 : Int32) : Option (Int32 × Int32 × Int32 × (Nat → Int32)) :=
  if p1 = (-1 : Int32) then
  bd (f_X8_within p2 (0 : Int32) (50 : Int32)) fun v6 =>
  if v6 = 0 then
  some ((-2 : Int32), st_rise, st_changed, st_talls)
  else
  bd (f_X7_changeRise st_rise p2) fun ⟨v7, st_rise_8, st_changed_9⟩ =>
  some (v7, st_rise_8, st_changed_9, st_talls)
  else
  bd (f_X5_has sc_people p1) fun v1 =>
  if v1 = 0 then
  some ((-1 : Int32), st_rise, st_changed, st_talls)
  else
  bd (f_X8_within p2 (0 : Int32) (250 : Int32)) fun v2 =>
  if v2 = 0 then
  some ((-2 : Int32), st_rise, st_changed, st_talls)
  else
  bd (f_X7_changeTall st_talls p1 p2) fun ⟨v3, st_changed_4, st_talls_5⟩ =>
  some (v3, st_rise, st_changed_4, st_talls_5)
def f_X8_pair (sc_people : Int32) (st_pairs : Nat → Int32) (st_changed : Int32) (p1 : Int32) (p2 : Int32) (p3 : Int32) : Option (Int32 × Int32 × (Nat → Int32)) :=
  bd (f_X5_has sc_people p1) fun v1 =>
  if v1 = 0 then
  some ((-1 : Int32), st_changed, st_pairs)
  else
  bd (f_X5_has sc_people p2) fun v2 =>
  if v2 = 0 then
  some ((-1 : Int32), st_changed, st_pairs)
  else
  if p1 = p2 then
  some ((-1 : Int32), st_changed, st_pairs)
  else
  bd (f_X8_within p3 (0 : Int32) (2 : Int32)) fun v3 =>
  if v3 = 0 then
  some ((-2 : Int32), st_changed, st_pairs)
  else
  bd (f_X7_changePair st_pairs p1 p2 p3) fun ⟨v4, st_changed_5, st_pairs_6⟩ =>
  some (v4, st_changed_5, st_pairs_6)
def f_X8_judge (N : Nat) (oe_standing : Nat → Int32) (pa_signs : Nat → Int32) (pa_count : Int32) (sc_people : Int32) (st_rows : Int32) (st_columns : Int32) (st_rise : Int32) (st_talls : Nat → Int32) (st_pairs : Nat → Int32) (p1 : Int32) : Option (Int32 × (Nat → Int32)) :=
  bd (f_X8_within p1 (0 : Int32) (1 : Int32)) fun v1 =>
  if v1 = 0 then
  some ((-2 : Int32), oe_standing)
  else
  bd (f_X8_standingFault N pa_signs pa_count sc_people st_rows st_columns) fun v2 =>
  if v2 = (-6 : Int32) then
  bd (f_X3_readStanding N pa_signs pa_count oe_standing sc_people) fun oe_standing_3 =>
  bd (f_X7_firstWrong N st_columns st_rise st_talls st_pairs oe_standing_3 sc_people) fun v4 =>
  if v4 = (-6 : Int32) then
  some (v4, oe_standing_3)
  else
  if p1 = 0 then
  some (v4, oe_standing_3)
  else
  bd (f_X7_wrongFor N st_columns st_rise st_talls st_pairs oe_standing_3 v4 sc_people) fun v5 =>
  some (v5, oe_standing_3)
  else
  some ((-5 : Int32), oe_standing)
def f_X8_placed (N : Nat) (sc_people : Int32) (st_rows : Int32) (st_columns : Int32) (st_rise : Int32) (st_talls : Nat → Int32) (st_pairs : Nat → Int32) (st_changed : Int32) (pw_leaves : Nat → Int64) (pw_first : Nat → Int32) (pw_people : Int32) (pw_count : Int32) (p1 : Int32) : Option (Int32 × Int32 × Int32 × Int32 × (Nat → Int64) × (Nat → Int32)) :=
  bd (f_X7_places st_rows st_columns) fun v1 =>
  if sc_people ≤ v1 then
  lc (bd (f_X4_solve N pw_leaves pw_first pw_people pw_count st_rows st_columns st_rise st_talls st_pairs st_changed sc_people) fun ⟨pw_people_4, pw_count_5, pw_leaves_6, pw_first_7, st_changed_8⟩ =>
  if p1 = (-1 : Int32) then
  some (pw_count_5, st_changed_8, pw_people_4, pw_count_5, pw_leaves_6, pw_first_7)
  else
  bd (f_X4_firstOf pw_first_7 p1) fun v9 =>
  some (v9, st_changed_8, pw_people_4, pw_count_5, pw_leaves_6, pw_first_7)) (fun k2 =>
  if p1 = (-1 : Int32) then
  k2
  else
  bd (f_X5_has sc_people p1) fun v3 =>
  if v3 = 0 then
  some ((-6 : Int32), st_changed, pw_people, pw_count, pw_leaves, pw_first)
  else
  k2)
  else
  some ((-3 : Int32), st_changed, pw_people, pw_count, pw_leaves, pw_first)
def f_X8_told (pa_count : Int32) (sc_people : Int32) (sc_bride : Int32) (sh_count : Int32) (sh_hands : Int32) (bl_flash : Int32) (od_tired : Int32) (od_quarters : Nat → Int32) (st_rows : Int32) (st_columns : Int32) (st_rise : Int32) (st_talls : Nat → Int32) (p1 : Int32) : Option (Int32) :=
  bd (f_X5_has sc_people (p1 - (10 : Int32))) fun v1 =>
  if v1 = 0 then
  bd (f_X5_has sc_people (p1 - (20 : Int32))) fun v2 =>
  if v2 = 0 then
  if p1 = (0 : Int32) then
  some pa_count
  else if p1 = (1 : Int32) then
  some sc_people
  else if p1 = (2 : Int32) then
  some sh_count
  else if p1 = (3 : Int32) then
  some sc_bride
  else if p1 = (4 : Int32) then
  some sh_hands
  else if p1 = (5 : Int32) then
  some bl_flash
  else if p1 = (6 : Int32) then
  some od_tired
  else if p1 = (7 : Int32) then
  some st_rows
  else if p1 = (8 : Int32) then
  some st_columns
  else if p1 = (9 : Int32) then
  some st_rise
  else 
  some (-2 : Int32)
  else
  bd (f_X2_quartersOf od_quarters (p1 - (20 : Int32))) fun v3 =>
  some v3
  else
  bd (f_X7_tallOf st_talls (p1 - (10 : Int32))) fun v4 =>
  some v4
def f_X9_in (p1 : Int64) (p2 : Int64) (p3 : Int64) : Option (Int32) :=
  if (lg_cmp p1 p2) < 0 then
  some (0 : Int32)
  else
  if 0 < (lg_cmp p1 p3) then
  some (0 : Int32)
  else
  some (1 : Int32)
def f_X9_ones_L4 (k4 : Int32 → Option (Int32)) : Nat → Int32 → Int32 → Option (Int32)
  | 0, _, _ => none
  | n + 1, y1, y2 =>
    if y2 = 0 then
    k4 y1
    else
    f_X9_ones_L4 k4 n (y1 + (1 : Int32)) (y2 &&& (y2 - (1 : Int32)))
def f_X9_ones (N : Nat) (p1 : Int32) : Option (Int32) :=
  lc (fun (z5 : Int32) => some z5) (fun k4 =>
  f_X9_ones_L4 k4 N (0 : Int32) p1)
def f_X9_isLook (p1 : Int32) : Option (Int32) :=
  if p1 = (111 : Int32) then
  some (1 : Int32)
  else
  if p1 = (115 : Int32) then
  some (1 : Int32)
  else
  if p1 = (116 : Int32) then
  some (1 : Int32)
  else
  if p1 = (104 : Int32) then
  some (1 : Int32)
  else
  some (0 : Int32)
def f_X9_begin_L23 (k8 : (Nat → Int32) → (Nat → Int32) → (Nat → Int32) → (Nat → Int32) → (Nat → Int32) → Option (Int32 × Int32 × Int32 × Int32 × (Nat → Int32) × (Nat → Int32) × (Nat → Int32) × (Nat → Int32) × (Nat → Int32) × (Nat → Int32))) : Nat → Int32 → (Nat → Int32) → (Nat → Int32) → (Nat → Int32) → (Nat → Int32) → (Nat → Int32) → Option (Int32 × Int32 × Int32 × Int32 × (Nat → Int32) × (Nat → Int32) × (Nat → Int32) × (Nat → Int32) × (Nat → Int32) × (Nat → Int32))
  | 0, _, _, _, _, _, _ => none
  | n + 1, y1, mo_period_2, mo_shut_3, mo_phase_4, mo_quarters_5, mo_tall_6 =>
    if (8 : Int32) ≤ y1 then
    k8 mo_period_2 mo_shut_3 mo_phase_4 mo_quarters_5 mo_tall_6
    else
    bd (sti mo_period_2 8 y1 (30 : Int32)) fun mo_period_14 =>
    bd (sti mo_shut_3 8 y1 (2 : Int32)) fun mo_shut_15 =>
    bd (sti mo_phase_4 8 y1 (0 : Int32)) fun mo_phase_16 =>
    bd (sti mo_quarters_5 8 y1 (1 : Int32)) fun mo_quarters_17 =>
    bd (sti mo_tall_6 8 y1 (170 : Int32)) fun mo_tall_18 =>
    f_X9_begin_L23 k8 n (y1 + (1 : Int32)) mo_period_14 mo_shut_15 mo_phase_16 mo_quarters_17 mo_tall_18
def f_X9_begin_L75 (k22 : (Nat → Int32) → Option (Int32 × Int32 × Int32 × Int32 × (Nat → Int32) × (Nat → Int32) × (Nat → Int32) × (Nat → Int32) × (Nat → Int32) × (Nat → Int32))) : Nat → Int32 → (Nat → Int32) → Option (Int32 × Int32 × Int32 × Int32 × (Nat → Int32) × (Nat → Int32) × (Nat → Int32) × (Nat → Int32) × (Nat → Int32) × (Nat → Int32))
  | 0, _, _ => none
  | n + 1, y19, mo_pairs_20 =>
    if (64 : Int32) ≤ y19 then
    k22 mo_pairs_20
    else
    bd (sti mo_pairs_20 64 y19 (0 : Int32)) fun mo_pairs_24 =>
    f_X9_begin_L75 k22 n (y19 + (1 : Int32)) mo_pairs_24
def f_X9_begin (N : Nat) (mo_period : Nat → Int32) (mo_shut : Nat → Int32) (mo_phase : Nat → Int32) (mo_quarters : Nat → Int32) (mo_tall : Nat → Int32) (mo_pairs : Nat → Int32) (p1 : Int32) : Option (Int32 × Int32 × Int32 × Int32 × (Nat → Int32) × (Nat → Int32) × (Nat → Int32) × (Nat → Int32) × (Nat → Int32) × (Nat → Int32)) :=
  lc (fun (mo_period_9 : Nat → Int32) (mo_shut_10 : Nat → Int32) (mo_phase_11 : Nat → Int32) (mo_quarters_12 : Nat → Int32) (mo_tall_13 : Nat → Int32) => lc (fun (mo_pairs_23 : Nat → Int32) => some (p1, (0 : Int32), (-6 : Int32), (0 : Int32), mo_period_9, mo_shut_10, mo_phase_11, mo_quarters_12, mo_tall_13, mo_pairs_23)) (fun k22 =>
  f_X9_begin_L75 k22 N (0 : Int32) mo_pairs)) (fun k8 =>
  f_X9_begin_L23 k8 N (0 : Int32) mo_period mo_shut mo_phase mo_quarters mo_tall)
def f_X9_isPerson (mo_people : Int32) (p1 : Int32) : Option (Int32) :=
  bd (f_X9_in (Int32.toInt64 p1) (0 : Int64) (Int32.toInt64 (mo_people - (1 : Int32)))) fun v1 =>
  bz v1
def f_X9_people (N : Nat) (mo_people : Int32) (mo_shots : Int32) (mo_bride : Int32) (mo_hands : Int32) (mo_period : Nat → Int32) (mo_shut : Nat → Int32) (mo_phase : Nat → Int32) (mo_quarters : Nat → Int32) (mo_tall : Nat → Int32) (mo_pairs : Nat → Int32) (p1 : Int32) : Option (Int32 × Int32 × Int32 × Int32 × Int32 × (Nat → Int32) × (Nat → Int32) × (Nat → Int32) × (Nat → Int32) × (Nat → Int32) × (Nat → Int32)) :=
  bd (f_X9_in (Int32.toInt64 p1) (1 : Int64) (8 : Int64)) fun v1 =>
  if v1 = 0 then
  some ((-2 : Int32), mo_people, mo_shots, mo_bride, mo_hands, mo_period, mo_shut, mo_phase, mo_quarters, mo_tall, mo_pairs)
  else
  bd (f_X9_begin N mo_period mo_shut mo_phase mo_quarters mo_tall mo_pairs p1) fun ⟨mo_people_2, mo_shots_3, mo_bride_4, mo_hands_5, mo_period_6, mo_shut_7, mo_phase_8, mo_quarters_9, mo_tall_10, mo_pairs_11⟩ =>
  some (mo_people, mo_people_2, mo_shots_3, mo_bride_4, mo_hands_5, mo_period_6, mo_shut_7, mo_phase_8, mo_quarters_9, mo_tall_10, mo_pairs_11)
def f_X9_bride (mo_people : Int32) (mo_bride : Int32) (p1 : Int32) : Option (Int32 × Int32) :=
  lc (lc (fun (x4 : Int32) => some (mo_bride, x4)) (fun k3 =>
  if p1 = (-1 : Int32) then
  k3 (-6 : Int32)
  else
  k3 p1)) (fun k1 =>
  if p1 = (-1 : Int32) then
  k1
  else
  bd (f_X9_isPerson mo_people p1) fun v2 =>
  if v2 = 0 then
  some ((-1 : Int32), mo_bride)
  else
  k1)
def f_X9_say (mo_pad : Nat → Int32) (mo_padMany : Int32) (p1 : Int32) : Option (Int32 × Int32 × (Nat → Int32)) :=
  bd (f_X9_in (Int32.toInt64 p1) (33 : Int64) (126 : Int64)) fun v1 =>
  if v1 = 0 then
  some ((-2 : Int32), mo_padMany, mo_pad)
  else
  if mo_padMany = (40 : Int32) then
  some ((-4 : Int32), mo_padMany, mo_pad)
  else
  bd (sti mo_pad 40 mo_padMany p1) fun mo_pad_2 =>
  some ((mo_padMany + (1 : Int32)), (mo_padMany + (1 : Int32)), mo_pad_2)
def f_X9_wipe (mo_padMany : Int32) : Option (Int32 × Int32) :=
  some (mo_padMany, (0 : Int32))
def f_X9_places (mo_rows : Int32) (mo_columns : Int32) : Option (Int32) :=
  some (mo_rows * mo_columns)
def f_X9_faultOfShot_L2 (mo_people : Int32) (mo_pad : Nat → Int32) (mo_padMany : Int32) (k3 : Option (Int32)) : Nat → Int32 → Option (Int32)
  | 0, _ => none
  | n + 1, y1 =>
    if mo_padMany ≤ y1 then
    k3
    else
    if y1 = mo_people then
    some y1
    else
    bd (ld mo_pad 40 y1) fun v4 =>
    bd (f_X9_isLook v4) fun v5 =>
    if v5 = 0 then
    some y1
    else
    f_X9_faultOfShot_L2 mo_people mo_pad mo_padMany k3 n (y1 + (1 : Int32))
def f_X9_faultOfShot (N : Nat) (mo_people : Int32) (mo_pad : Nat → Int32) (mo_padMany : Int32) : Option (Int32) :=
  lc (if mo_people ≤ mo_padMany then
  some (-6 : Int32)
  else
  some mo_padMany) (fun k3 =>
  f_X9_faultOfShot_L2 mo_people mo_pad mo_padMany k3 N (0 : Int32))
def f_X9_faultOfStanding_L4 (mo_people : Int32) (mo_rows : Int32) (mo_columns : Int32) (mo_pad : Nat → Int32) (mo_padMany : Int32) (k4 : Option (Int32)) : Nat → Int32 → Int32 → Option (Int32)
  | 0, _, _ => none
  | n + 1, y1, y2 =>
    if mo_padMany ≤ y2 then
    k4
    else
    bd (ld mo_pad 40 y2) fun v5 =>
    if y2 = mo_people then
    some y2
    else
    bd (f_X9_places mo_rows mo_columns) fun v6 =>
    bd (f_X9_in (Int32.toInt64 (v5 - (48 : Int32))) (0 : Int64) (Int32.toInt64 (v6 - (1 : Int32)))) fun v7 =>
    if v7 = 0 then
    some y2
    else
    if ((y1 >>> ((v5 - (48 : Int32)) &&& 31)) &&& (1 : Int32)) = (1 : Int32) then
    some y2
    else
    f_X9_faultOfStanding_L4 mo_people mo_rows mo_columns mo_pad mo_padMany k4 n (y1 ||| ((1 : Int32) <<< ((v5 - (48 : Int32)) &&& 31))) (y2 + (1 : Int32))
def f_X9_faultOfStanding (N : Nat) (mo_people : Int32) (mo_rows : Int32) (mo_columns : Int32) (mo_pad : Nat → Int32) (mo_padMany : Int32) : Option (Int32) :=
  lc (if mo_people ≤ mo_padMany then
  some (-6 : Int32)
  else
  some mo_padMany) (fun k4 =>
  f_X9_faultOfStanding_L4 mo_people mo_rows mo_columns mo_pad mo_padMany k4 N (0 : Int32) (0 : Int32))
def f_X9_fault (N : Nat) (mo_people : Int32) (mo_rows : Int32) (mo_columns : Int32) (mo_pad : Nat → Int32) (mo_padMany : Int32) (p1 : Int32) : Option (Int32) :=
  if p1 = 0 then
  bd (f_X9_faultOfShot N mo_people mo_pad mo_padMany) fun v2 =>
  some v2
  else
  if p1 = (1 : Int32) then
  bd (f_X9_faultOfStanding N mo_people mo_rows mo_columns mo_pad mo_padMany) fun v1 =>
  some v1
  else
  some (-2 : Int32)
def f_X9_shot_L24 (mo_people : Int32) (mo_shots : Int32) (mo_pad : Nat → Int32) (k5 : (Nat → Int32) → Option (Int32 × Int32 × Int32 × (Nat → Int32))) : Nat → Int32 → (Nat → Int32) → Option (Int32 × Int32 × Int32 × (Nat → Int32))
  | 0, _, _ => none
  | n + 1, y2, mo_looks_3 =>
    if mo_people ≤ y2 then
    k5 mo_looks_3
    else
    bd (ld mo_pad 40 y2) fun v7 =>
    bd (sti mo_looks_3 80 (((8 : Int32) * mo_shots) + y2) v7) fun mo_looks_8 =>
    f_X9_shot_L24 mo_people mo_shots mo_pad k5 n (y2 + (1 : Int32)) mo_looks_8
def f_X9_shot (N : Nat) (mo_people : Int32) (mo_shots : Int32) (mo_looks : Nat → Int32) (mo_pad : Nat → Int32) (mo_padMany : Int32) : Option (Int32 × Int32 × Int32 × (Nat → Int32)) :=
  bd (f_X9_faultOfShot N mo_people mo_pad mo_padMany) fun v1 =>
  if v1 < 0 then
  if mo_shots = (10 : Int32) then
  some ((-4 : Int32), mo_shots, mo_padMany, mo_looks)
  else
  lc (fun (mo_looks_6 : Nat → Int32) => some (((mo_shots + (1 : Int32)) - (1 : Int32)), (mo_shots + (1 : Int32)), (0 : Int32), mo_looks_6)) (fun k5 =>
  f_X9_shot_L24 mo_people mo_shots mo_pad k5 N (0 : Int32) mo_looks)
  else
  some ((-5 : Int32), mo_shots, mo_padMany, mo_looks)
def f_X9_look (mo_people : Int32) (mo_shots : Int32) (mo_looks : Nat → Int32) (p1 : Int32) (p2 : Int32) : Option (Int32) :=
  bd (f_X9_in (Int32.toInt64 p1) (0 : Int64) (Int32.toInt64 (mo_shots - (1 : Int32)))) fun v1 =>
  if v1 = 0 then
  some (-1 : Int32)
  else
  bd (f_X9_isPerson mo_people p2) fun v2 =>
  if v2 = 0 then
  some (-1 : Int32)
  else
  bd (ld mo_looks 80 (((8 : Int32) * p1) + p2)) fun v3 =>
  some v3
def f_X9_isOpen (mo_looks : Nat → Int32) (p1 : Int32) (p2 : Int32) : Option (Int32) :=
  bd (ld mo_looks 80 (((8 : Int32) * p1) + p2)) fun v1 =>
  if v1 = (111 : Int32) then
  some (1 : Int32)
  else
  some (0 : Int32)
def f_X9_badIn_L4 (mo_people : Int32) (mo_looks : Nat → Int32) (p1 : Int32) (k4 : Int32 → Option (Int32)) : Nat → Int32 → Int32 → Option (Int32)
  | 0, _, _ => none
  | n + 1, y1, y2 =>
    if mo_people ≤ y2 then
    k4 y1
    else
    bd (f_X9_isOpen mo_looks p1 y2) fun v6 =>
    lc (fun (x8 : Int32) => f_X9_badIn_L4 mo_people mo_looks p1 k4 n (y1 + x8) (y2 + (1 : Int32))) (fun k7 =>
    if v6 = 0 then
    k7 (1 : Int32)
    else
    k7 (0 : Int32))
def f_X9_badIn (N : Nat) (mo_people : Int32) (mo_looks : Nat → Int32) (p1 : Int32) : Option (Int32) :=
  lc (fun (z5 : Int32) => some z5) (fun k4 =>
  f_X9_badIn_L4 mo_people mo_looks p1 k4 N (0 : Int32) (0 : Int32))
def f_X9_hiddenIn_L4 (mo_people : Int32) (mo_looks : Nat → Int32) (p1 : Int32) (k4 : Int32 → Option (Int32)) : Nat → Int32 → Int32 → Option (Int32)
  | 0, _, _ => none
  | n + 1, y1, y2 =>
    if mo_people ≤ y2 then
    k4 y1
    else
    bd (ld mo_looks 80 (((8 : Int32) * p1) + y2)) fun v6 =>
    lc (fun (x8 : Int32) => f_X9_hiddenIn_L4 mo_people mo_looks p1 k4 n (y1 + x8) (y2 + (1 : Int32))) (fun k7 =>
    if v6 = (104 : Int32) then
    k7 (1 : Int32)
    else
    k7 (0 : Int32))
def f_X9_hiddenIn (N : Nat) (mo_people : Int32) (mo_looks : Nat → Int32) (p1 : Int32) : Option (Int32) :=
  lc (fun (z5 : Int32) => some z5) (fun k4 =>
  f_X9_hiddenIn_L4 mo_people mo_looks p1 k4 N (0 : Int32) (0 : Int32))
def f_X9_single_L21 (mo_people : Int32) (mo_shots : Int32) (mo_looks : Nat → Int32) (mo_bride : Int32) (N : Nat) (k6 : Int32 → Int32 → Option (Int32)) : Nat → Int32 → Int32 → Int32 → Option (Int32)
  | 0, _, _, _ => none
  | n + 1, y2, y3, y4 =>
    if mo_shots ≤ y4 then
    k6 y2 y3
    else
    bd (f_X9_badIn N mo_people mo_looks y4) fun v9 =>
    bd (f_X9_hiddenIn N mo_people mo_looks y4) fun v10 =>
    lc (fun (x15 : Int32) (x16 : Int32) => f_X9_single_L21 mo_people mo_shots mo_looks mo_bride N k6 n x15 x16 (y4 + (1 : Int32))) (fun k12 =>
    lc (lc (k12 y4 (((10 : Int32) * v9) + v10)) (fun k14 =>
    if y2 < 0 then
    k14
    else
    if y3 ≤ (((10 : Int32) * v9) + v10) then
    k12 y2 y3
    else
    k14)) (fun k11 =>
    if mo_bride < 0 then
    k11
    else
    bd (f_X9_isOpen mo_looks y4 mo_bride) fun v13 =>
    if v13 = 0 then
    k12 y2 y3
    else
    k11))
def f_X9_single (N : Nat) (mo_people : Int32) (mo_shots : Int32) (mo_looks : Nat → Int32) (mo_bride : Int32) (p1 : Int32) : Option (Int32) :=
  bd (f_X9_in (Int32.toInt64 p1) (0 : Int64) (1 : Int64)) fun v1 =>
  if v1 = 0 then
  some (-2 : Int32)
  else
  lc (fun (z7 : Int32) (z8 : Int32) => if 0 ≤ z7 then
  if p1 = 0 then
  some z7
  else
  bd (idv z8 (10 : Int32)) fun v17 =>
  some v17
  else
  some (-6 : Int32)) (fun k6 =>
  f_X9_single_L21 mo_people mo_shots mo_looks mo_bride N k6 N (-6 : Int32) (0 : Int32) (0 : Int32))
def f_X9_openIn_L4 (mo_people : Int32) (mo_looks : Nat → Int32) (p1 : Int32) (k4 : Int32 → Option (Int32)) : Nat → Int32 → Int32 → Option (Int32)
  | 0, _, _ => none
  | n + 1, y1, y2 =>
    if mo_people ≤ y2 then
    k4 y1
    else
    bd (f_X9_isOpen mo_looks p1 y2) fun v6 =>
    lc (fun (x8 : Int32) => f_X9_openIn_L4 mo_people mo_looks p1 k4 n (y1 ||| x8) (y2 + (1 : Int32))) (fun k7 =>
    if v6 = 0 then
    k7 (0 : Int32)
    else
    k7 ((1 : Int32) <<< (y2 &&& 31)))
def f_X9_openIn (N : Nat) (mo_people : Int32) (mo_looks : Nat → Int32) (p1 : Int32) : Option (Int32) :=
  lc (fun (z5 : Int32) => some z5) (fun k4 =>
  f_X9_openIn_L4 mo_people mo_looks p1 k4 N (0 : Int32) (0 : Int32))
def f_X9_cover_L20 (mo_people : Int32) (mo_shots : Int32) (mo_looks : Nat → Int32) (y2 : Int32) (N : Nat) (k9 : Int32 → Option (Int32)) : Nat → Int32 → Int32 → Option (Int32)
  | 0, _, _ => none
  | n + 1, y6, y7 =>
    if mo_shots ≤ y7 then
    k9 y6
    else
    lc (fun (x13 : Int32) => f_X9_cover_L20 mo_people mo_shots mo_looks y2 N k9 n (y6 ||| x13) (y7 + (1 : Int32))) (fun k11 =>
    if ((y2 >>> (y7 &&& 31)) &&& (1 : Int32)) = (1 : Int32) then
    bd (f_X9_openIn N mo_people mo_looks y7) fun v12 =>
    k11 v12
    else
    k11 (0 : Int32))
def f_X9_cover_L5 (mo_people : Int32) (mo_shots : Int32) (mo_looks : Nat → Int32) (N : Nat) (k4 : Int32 → Option (Int32)) : Nat → Int32 → Int32 → Option (Int32)
  | 0, _, _ => none
  | n + 1, y1, y2 =>
    if ((1 : Int32) <<< (mo_shots &&& 31)) ≤ y2 then
    k4 y1
    else
    lc (fun (z10 : Int32) => lc (fun (x15 : Int32) => lc (fun (x21 : Int32) => f_X9_cover_L5 mo_people mo_shots mo_looks N k4 n x21 (y2 + (1 : Int32))) (fun k17 =>
    lc (k17 y1) (fun k16 =>
    if x15 = 0 then
    k16
    else
    lc (k17 y2) (fun k18 =>
    if y1 < 0 then
    k18
    else
    bd (f_X9_ones N y2) fun v19 =>
    bd (f_X9_ones N y1) fun v20 =>
    if v20 ≤ v19 then
    k16
    else
    k18)))) (fun k14 =>
    if z10 = (((1 : Int32) <<< (mo_people &&& 31)) - (1 : Int32)) then
    k14 (1 : Int32)
    else
    k14 (0 : Int32))) (fun k9 =>
    f_X9_cover_L20 mo_people mo_shots mo_looks y2 N k9 N (0 : Int32) (0 : Int32))
def f_X9_cover (N : Nat) (mo_people : Int32) (mo_shots : Int32) (mo_looks : Nat → Int32) : Option (Int32) :=
  lc (fun (z5 : Int32) => some z5) (fun k4 =>
  f_X9_cover_L5 mo_people mo_shots mo_looks N k4 N (-6 : Int32) (0 : Int32))
def f_X9_spoils_L36 (mo_shots : Int32) (mo_looks : Nat → Int32) (y4 : Int32) (k12 : Int32 → Option (Int32)) : Nat → Int32 → Int32 → Option (Int32)
  | 0, _, _ => none
  | n + 1, y9, y10 =>
    if mo_shots ≤ y10 then
    k12 y9
    else
    bd (f_X9_isOpen mo_looks y10 y4) fun v14 =>
    lc (fun (x16 : Int32) => f_X9_spoils_L36 mo_shots mo_looks y4 k12 n (y9 + x16) (y10 + (1 : Int32))) (fun k15 =>
    if v14 = 0 then
    k15 (1 : Int32)
    else
    k15 (0 : Int32))
def f_X9_spoils_L21 (mo_people : Int32) (mo_shots : Int32) (mo_looks : Nat → Int32) (N : Nat) (k6 : Int32 → Int32 → Option (Int32)) : Nat → Int32 → Int32 → Int32 → Option (Int32)
  | 0, _, _, _ => none
  | n + 1, y2, y3, y4 =>
    if mo_people ≤ y4 then
    k6 y2 y3
    else
    lc (fun (z13 : Int32) => lc (fun (x18 : Int32) => lc (fun (x20 : Int32) => f_X9_spoils_L21 mo_people mo_shots mo_looks N k6 n x18 x20 (y4 + (1 : Int32))) (fun k19 =>
    if z13 ≤ y3 then
    k19 y3
    else
    k19 z13)) (fun k17 =>
    if z13 ≤ y3 then
    k17 y2
    else
    k17 y4)) (fun k12 =>
    f_X9_spoils_L36 mo_shots mo_looks y4 k12 N (0 : Int32) (0 : Int32))
def f_X9_spoils (N : Nat) (mo_people : Int32) (mo_shots : Int32) (mo_looks : Nat → Int32) (p1 : Int32) : Option (Int32) :=
  bd (f_X9_in (Int32.toInt64 p1) (0 : Int64) (1 : Int64)) fun v1 =>
  if v1 = 0 then
  some (-2 : Int32)
  else
  lc (fun (z7 : Int32) (z8 : Int32) => if p1 = 0 then
  some z7
  else
  some z8) (fun k6 =>
  f_X9_spoils_L21 mo_people mo_shots mo_looks N k6 N (-6 : Int32) (0 : Int32) (0 : Int32))
def f_X9_hands (mo_people : Int32) (mo_hands : Int32) (p1 : Int32) : Option (Int32 × Int32) :=
  bd (f_X9_in (Int32.toInt64 p1) (0 : Int64) (Int32.toInt64 (((1 : Int32) <<< ((mo_people - (1 : Int32)) &&& 31)) - (1 : Int32)))) fun v1 =>
  if v1 = 0 then
  some ((-2 : Int32), mo_hands)
  else
  some (mo_hands, p1)
def f_X9_cutsFrom_L32 (mo_shots : Int32) (mo_hands : Int32) (mo_cuts : Nat → Int32) (p1 : Int32) (p2 : Int32) (k5 : Int32 → Option (Int32)) : Nat → Int32 → Int32 → Option (Int32)
  | 0, _, _ => none
  | n + 1, y2, y3 =>
    if mo_shots ≤ y3 then
    k5 y2
    else
    lc (fun (x9 : Int32) => bd (ld mo_cuts 80 (((10 : Int32) * (p1 + (1 : Int32))) + y3)) fun v10 =>
    lc (fun (x12 : Int32) => lc (fun (x15 : Int32) => f_X9_cutsFrom_L32 mo_shots mo_hands mo_cuts p1 p2 k5 n x15 (y3 + (1 : Int32))) (fun k14 =>
    lc (k14 y2) (fun k13 =>
    if x9 = 0 then
    k13
    else
    if y2 ≤ (v10 + x12) then
    k13
    else
    k14 (v10 + x12)))) (fun k11 =>
    if y3 = p2 then
    k11 (0 : Int32)
    else
    k11 (1 : Int32))) (fun k8 =>
    lc (k8 (1 : Int32)) (fun k7 =>
    if y3 = p2 then
    k7
    else
    if ((mo_hands >>> (p1 &&& 31)) &&& (1 : Int32)) = 0 then
    k7
    else
    k8 (0 : Int32)))
def f_X9_cutsFrom (N : Nat) (mo_people : Int32) (mo_shots : Int32) (mo_looks : Nat → Int32) (mo_hands : Int32) (mo_cuts : Nat → Int32) (p1 : Int32) (p2 : Int32) : Option (Int32) :=
  bd (f_X9_isOpen mo_looks p2 p1) fun v1 =>
  if v1 = 0 then
  some (1000 : Int32)
  else
  if p1 = (mo_people - (1 : Int32)) then
  some (0 : Int32)
  else
  lc (fun (z6 : Int32) => some z6) (fun k5 =>
  f_X9_cutsFrom_L32 mo_shots mo_hands mo_cuts p1 p2 k5 N (1000 : Int32) (0 : Int32))
def f_X9_findCuts_L13 (mo_people : Int32) (mo_shots : Int32) (mo_looks : Nat → Int32) (mo_hands : Int32) (y1 : Int32) (N : Nat) (k9 : (Nat → Int32) → Option ((Nat → Int32))) : Nat → Int32 → (Nat → Int32) → Option ((Nat → Int32))
  | 0, _, _ => none
  | n + 1, y6, mo_cuts_7 =>
    if mo_shots ≤ y6 then
    k9 mo_cuts_7
    else
    bd (f_X9_cutsFrom N mo_people mo_shots mo_looks mo_hands mo_cuts_7 y1 y6) fun v11 =>
    bd (sti mo_cuts_7 80 (((10 : Int32) * y1) + y6) v11) fun mo_cuts_12 =>
    f_X9_findCuts_L13 mo_people mo_shots mo_looks mo_hands y1 N k9 n (y6 + (1 : Int32)) mo_cuts_12
def f_X9_findCuts_L7 (mo_people : Int32) (mo_shots : Int32) (mo_looks : Nat → Int32) (mo_hands : Int32) (N : Nat) (k4 : (Nat → Int32) → Option ((Nat → Int32))) : Nat → Int32 → (Nat → Int32) → Option ((Nat → Int32))
  | 0, _, _ => none
  | n + 1, y1, mo_cuts_2 =>
    if y1 < 0 then
    k4 mo_cuts_2
    else
    lc (fun (mo_cuts_10 : Nat → Int32) => f_X9_findCuts_L7 mo_people mo_shots mo_looks mo_hands N k4 n (y1 + (-1 : Int32)) mo_cuts_10) (fun k9 =>
    f_X9_findCuts_L13 mo_people mo_shots mo_looks mo_hands y1 N k9 N (0 : Int32) mo_cuts_2)
def f_X9_findCuts (N : Nat) (mo_people : Int32) (mo_shots : Int32) (mo_looks : Nat → Int32) (mo_hands : Int32) (mo_cuts : Nat → Int32) : Option ((Nat → Int32)) :=
  lc (fun (mo_cuts_5 : Nat → Int32) => some mo_cuts_5) (fun k4 =>
  f_X9_findCuts_L7 mo_people mo_shots mo_looks mo_hands N k4 N (mo_people - (1 : Int32)) mo_cuts)
def f_X9_fewestCuts_L6 (mo_shots : Int32) (mo_cuts : Nat → Int32) (k4 : Int32 → Option (Int32)) : Nat → Int32 → Int32 → Option (Int32)
  | 0, _, _ => none
  | n + 1, y1, y2 =>
    if mo_shots ≤ y2 then
    k4 y1
    else
    bd (ld mo_cuts 80 y2) fun v6 =>
    lc (fun (x9 : Int32) => f_X9_fewestCuts_L6 mo_shots mo_cuts k4 n x9 (y2 + (1 : Int32))) (fun k7 =>
    if y1 ≤ v6 then
    k7 y1
    else
    bd (ld mo_cuts 80 y2) fun v8 =>
    k7 v8)
def f_X9_fewestCuts (N : Nat) (mo_shots : Int32) (mo_cuts : Nat → Int32) : Option (Int32) :=
  lc (fun (z5 : Int32) => some z5) (fun k4 =>
  f_X9_fewestCuts_L6 mo_shots mo_cuts k4 N (1000 : Int32) (0 : Int32))
def f_X9_goesOn (mo_hands : Int32) (mo_cuts : Nat → Int32) (p1 : Int32) (p2 : Int32) (p3 : Int32) (p4 : Int32) : Option (Int32) :=
  lc (fun (x3 : Int32) => lc (fun (x6 : Int32) => if x6 = 0 then
  some (0 : Int32)
  else
  bd (ld mo_cuts 80 (((10 : Int32) * p1) + p2)) fun v7 =>
  lc (fun (x9 : Int32) => if (v7 + x9) = p4 then
  some (1 : Int32)
  else
  some (0 : Int32)) (fun k8 =>
  if x3 = 0 then
  k8 (0 : Int32)
  else
  k8 (1 : Int32))) (fun k5 =>
  lc (k5 (1 : Int32)) (fun k4 =>
  if x3 = 0 then
  k4
  else
  if ((mo_hands >>> ((p1 - (1 : Int32)) &&& 31)) &&& (1 : Int32)) = 0 then
  k4
  else
  k5 (0 : Int32)))) (fun k2 =>
  lc (k2 (0 : Int32)) (fun k1 =>
  if p3 < 0 then
  k1
  else
  if p2 = p3 then
  k1
  else
  k2 (1 : Int32)))
def f_X9_heads_L52 (mo_hands : Int32) (mo_cuts_1 : Nat → Int32) (y4 : Int32) (y5 : Int32) (y6 : Int32) (k12 : Int32 → Option (Int32 × (Nat → Int32))) : Nat → Int32 → Option (Int32 × (Nat → Int32))
  | 0, _ => none
  | n + 1, y10 =>
    bd (f_X9_goesOn mo_hands mo_cuts_1 y6 y10 y5 y4) fun v14 =>
    if v14 = 0 then
    f_X9_heads_L52 mo_hands mo_cuts_1 y4 y5 y6 k12 n (y10 + (1 : Int32))
    else
    k12 y10
def f_X9_heads_L43 (mo_hands : Int32) (p1 : Int32) (mo_cuts_1 : Nat → Int32) (N : Nat) (k8 : Int32 → Option (Int32 × (Nat → Int32))) : Nat → Int32 → Int32 → Int32 → Option (Int32 × (Nat → Int32))
  | 0, _, _, _ => none
  | n + 1, y4, y5, y6 =>
    if p1 < y6 then
    k8 y5
    else
    lc (fun (z13 : Int32) => lc (fun (x17 : Int32) => f_X9_heads_L43 mo_hands p1 mo_cuts_1 N k8 n (y4 - x17) z13 (y6 + (1 : Int32))) (fun k16 =>
    lc (k16 (0 : Int32)) (fun k15 =>
    if y5 < 0 then
    k15
    else
    if z13 = y5 then
    k15
    else
    k16 (1 : Int32)))) (fun k12 =>
    f_X9_heads_L52 mo_hands mo_cuts_1 y4 y5 y6 k12 N (0 : Int32))
def f_X9_heads (N : Nat) (mo_people : Int32) (mo_shots : Int32) (mo_looks : Nat → Int32) (mo_hands : Int32) (mo_cuts : Nat → Int32) (p1 : Int32) : Option (Int32 × (Nat → Int32)) :=
  bd (f_X9_findCuts N mo_people mo_shots mo_looks mo_hands mo_cuts) fun mo_cuts_1 =>
  bd (f_X9_fewestCuts N mo_shots mo_cuts_1) fun v2 =>
  if v2 < (1000 : Int32) then
  if p1 = (-1 : Int32) then
  some (v2, mo_cuts_1)
  else
  bd (f_X9_isPerson mo_people p1) fun v3 =>
  if v3 = 0 then
  some ((-6 : Int32), mo_cuts_1)
  else
  lc (fun (z9 : Int32) => some (z9, mo_cuts_1)) (fun k8 =>
  f_X9_heads_L43 mo_hands p1 mo_cuts_1 N k8 N v2 (-6 : Int32) (0 : Int32))
  else
  some ((-6 : Int32), mo_cuts_1)
def f_X9_fewestBad_L22 (mo_looks : Nat → Int32) (p2 : Int32) (y2 : Int32) (k9 : Int32 → Option (Int32)) : Nat → Int32 → Int32 → Option (Int32)
  | 0, _, _ => none
  | n + 1, y6, y7 =>
    if p2 < y7 then
    k9 y6
    else
    bd (f_X9_isOpen mo_looks y2 y7) fun v11 =>
    lc (fun (x13 : Int32) => f_X9_fewestBad_L22 mo_looks p2 y2 k9 n (y6 + x13) (y7 + (1 : Int32))) (fun k12 =>
    if v11 = 0 then
    k12 (1 : Int32)
    else
    k12 (0 : Int32))
def f_X9_fewestBad_L7 (mo_shots : Int32) (mo_looks : Nat → Int32) (p1 : Int32) (p2 : Int32) (N : Nat) (k4 : Int32 → Option (Int32)) : Nat → Int32 → Int32 → Option (Int32)
  | 0, _, _ => none
  | n + 1, y1, y2 =>
    if mo_shots ≤ y2 then
    k4 y1
    else
    lc (fun (z10 : Int32) => lc (fun (x15 : Int32) => f_X9_fewestBad_L7 mo_shots mo_looks p1 p2 N k4 n x15 (y2 + (1 : Int32))) (fun k14 =>
    if y1 ≤ z10 then
    k14 y1
    else
    k14 z10)) (fun k9 =>
    f_X9_fewestBad_L22 mo_looks p2 y2 k9 N (0 : Int32) p1)
def f_X9_fewestBad (N : Nat) (mo_shots : Int32) (mo_looks : Nat → Int32) (p1 : Int32) (p2 : Int32) : Option (Int32) :=
  lc (fun (z5 : Int32) => some z5) (fun k4 =>
  f_X9_fewestBad_L7 mo_shots mo_looks p1 p2 N k4 N (1000 : Int32) (0 : Int32))
def f_X9_left_L16 (mo_people : Int32) (mo_shots : Int32) (mo_looks : Nat → Int32) (mo_hands : Int32) (N : Nat) (k5 : Int32 → Option (Int32)) : Nat → Int32 → Int32 → Int32 → Option (Int32)
  | 0, _, _, _ => none
  | n + 1, y1, y2, y3 =>
    if mo_people ≤ y3 then
    k5 y1
    else
    lc (fun (x9 : Int32) => lc (fun (x12 : Int32) (x13 : Int32) => f_X9_left_L16 mo_people mo_shots mo_looks mo_hands N k5 n x12 x13 (y3 + (1 : Int32))) (fun k10 =>
    if x9 = 0 then
    k10 y1 y2
    else
    bd (f_X9_fewestBad N mo_shots mo_looks y2 y3) fun v11 =>
    k10 (y1 + v11) (y3 + (1 : Int32)))) (fun k8 =>
    lc (k8 (1 : Int32)) (fun k7 =>
    if y3 = (mo_people - (1 : Int32)) then
    k7
    else
    if ((mo_hands >>> (y3 &&& 31)) &&& (1 : Int32)) = 0 then
    k7
    else
    k8 (0 : Int32)))
def f_X9_left (N : Nat) (mo_people : Int32) (mo_shots : Int32) (mo_looks : Nat → Int32) (mo_hands : Int32) : Option (Int32) :=
  if mo_shots = 0 then
  some (-6 : Int32)
  else
  lc (fun (z6 : Int32) => some z6) (fun k5 =>
  f_X9_left_L16 mo_people mo_shots mo_looks mo_hands N k5 N (0 : Int32) (0 : Int32) (0 : Int32))
def f_X9_blink (mo_people : Int32) (mo_period : Nat → Int32) (mo_shut : Nat → Int32) (mo_phase : Nat → Int32) (p1 : Int32) (p2 : Int32) (p3 : Int32) : Option (Int32 × (Nat → Int32) × (Nat → Int32) × (Nat → Int32)) :=
  bd (f_X9_isPerson mo_people p1) fun v1 =>
  if v1 = 0 then
  some ((-1 : Int32), mo_period, mo_shut, mo_phase)
  else
  lc (fun (x12 : Int32) => if x12 = 0 then
  some ((-2 : Int32), mo_period, mo_shut, mo_phase)
  else
  lc (fun (x17 : Int32) => lc (fun (x20 : Int32) => bd (sti mo_period 8 p1 x20) fun mo_period_21 =>
  lc (fun (x24 : Int32) => bd (sti mo_shut 8 p1 x24) fun mo_shut_25 =>
  lc (fun (x28 : Int32) => bd (sti mo_phase 8 p1 x28) fun mo_phase_29 =>
  some (x17, mo_period_21, mo_shut_25, mo_phase_29)) (fun k26 =>
  if p2 = (2 : Int32) then
  k26 p3
  else
  bd (ld mo_phase 8 p1) fun v27 =>
  k26 v27)) (fun k22 =>
  if p2 = (1 : Int32) then
  k22 p3
  else
  bd (ld mo_shut 8 p1) fun v23 =>
  k22 v23)) (fun k18 =>
  if p2 = 0 then
  k18 p3
  else
  bd (ld mo_period 8 p1) fun v19 =>
  k18 v19)) (fun k13 =>
  if p2 = 0 then
  bd (ld mo_period 8 p1) fun v16 =>
  k13 v16
  else
  if p2 = (1 : Int32) then
  bd (ld mo_shut 8 p1) fun v15 =>
  k13 v15
  else
  bd (ld mo_phase 8 p1) fun v14 =>
  k13 v14)) (fun k2 =>
  if p2 = 0 then
  bd (ld mo_shut 8 p1) fun v7 =>
  lc (fun (x10 : Int64) => bd (f_X9_in (Int32.toInt64 p3) x10 (60 : Int64)) fun v11 =>
  k2 v11) (fun k8 =>
  if v7 ≤ (1 : Int32) then
  k8 (1 : Int64)
  else
  bd (ld mo_shut 8 p1) fun v9 =>
  k8 (Int32.toInt64 v9))
  else
  if p2 = (1 : Int32) then
  bd (ld mo_period 8 p1) fun v5 =>
  bd (f_X9_in (Int32.toInt64 p3) (0 : Int64) (Int32.toInt64 v5)) fun v6 =>
  k2 v6
  else
  lc (k2 (0 : Int32)) (fun k3 =>
  if p2 = (2 : Int32) then
  bd (f_X9_in (Int32.toInt64 p3) (0 : Int64) (59 : Int64)) fun v4 =>
  if v4 = 0 then
  k3
  else
  k2 (1 : Int32)
  else
  k3))
def f_X9_flash (mo_flash : Int32) (p1 : Int32) : Option (Int32 × Int32) :=
  bd (f_X9_in (Int32.toInt64 p1) (-1 : Int64) (999 : Int64)) fun v1 =>
  if v1 = 0 then
  some ((-2 : Int32), mo_flash)
  else
  some (mo_flash, p1)
def f_X9_openAt_L40 (mo_people : Int32) (mo_period : Nat → Int32) (mo_shut : Nat → Int32) (mo_phase : Nat → Int32) (p1 : Int32) (x4 : Int32) (k8 : Int32 → Option (Int32)) : Nat → Int32 → Int32 → Option (Int32)
  | 0, _, _ => none
  | n + 1, y5, y6 =>
    if mo_people ≤ y6 then
    k8 y5
    else
    lc (fun (x16 : Int32) => lc (fun (x18 : Int32) => f_X9_openAt_L40 mo_people mo_period mo_shut mo_phase p1 x4 k8 n (y5 ||| x18) (y6 + (1 : Int32))) (fun k17 =>
    if x16 = 0 then
    k17 (0 : Int32)
    else
    k17 ((1 : Int32) <<< (y6 &&& 31)))) (fun k11 =>
    lc (k11 (0 : Int32)) (fun k10 =>
    if x4 = 0 then
    bd (ld mo_phase 8 y6) fun v12 =>
    bd (ld mo_period 8 y6) fun v13 =>
    bd (irm (p1 + v12) v13) fun v14 =>
    bd (ld mo_shut 8 y6) fun v15 =>
    if v14 < v15 then
    k10
    else
    k11 (1 : Int32)
    else
    k10))
def f_X9_openAt (N : Nat) (mo_people : Int32) (mo_period : Nat → Int32) (mo_shut : Nat → Int32) (mo_phase : Nat → Int32) (mo_flash : Int32) (p1 : Int32) : Option (Int32) :=
  lc (fun (x4 : Int32) => lc (fun (z9 : Int32) => some z9) (fun k8 =>
  f_X9_openAt_L40 mo_people mo_period mo_shut mo_phase p1 x4 k8 N (0 : Int32) (0 : Int32))) (fun k2 =>
  lc (k2 (0 : Int32)) (fun k1 =>
  if mo_flash < 0 then
  k1
  else
  bd (f_X9_in (Int32.toInt64 p1) (Int32.toInt64 (mo_flash + (1 : Int32))) (Int32.toInt64 (mo_flash + (2 : Int32)))) fun v3 =>
  if v3 = 0 then
  k1
  else
  k2 (1 : Int32)))
def f_X9_open (N : Nat) (mo_people : Int32) (mo_period : Nat → Int32) (mo_shut : Nat → Int32) (mo_phase : Nat → Int32) (mo_flash : Int32) (p1 : Int32) : Option (Int32) :=
  bd (f_X9_in (Int32.toInt64 p1) (0 : Int64) (999 : Int64)) fun v1 =>
  if v1 = 0 then
  some (-2 : Int32)
  else
  bd (f_X9_openAt N mo_people mo_period mo_shut mo_phase mo_flash p1) fun v2 =>
  some v2
def f_X9_fire_L53 (mo_people : Int32) (mo_period : Nat → Int32) (mo_shut : Nat → Int32) (mo_phase : Nat → Int32) (mo_flash : Int32) (p2 : Int32) (N : Nat) (k10 : Int32 → Int32 → Int32 → Option (Int32)) : Nat → Int32 → Int32 → Int32 → Int32 → Option (Int32)
  | 0, _, _, _, _ => none
  | n + 1, y5, y6, y7, y8 =>
    if p2 < y8 then
    k10 y5 y6 y7
    else
    bd (f_X9_openAt N mo_people mo_period mo_shut mo_phase mo_flash y8) fun v14 =>
    bd (f_X9_ones N v14) fun v15 =>
    lc (fun (x17 : Int32) => lc (fun (x19 : Int32) => lc (fun (x21 : Int32) => f_X9_fire_L53 mo_people mo_period mo_shut mo_phase mo_flash p2 N k10 n x17 x19 (y7 + x21) (y8 + (1 : Int32))) (fun k20 =>
    if v15 = mo_people then
    k20 (1 : Int32)
    else
    k20 (0 : Int32))) (fun k18 =>
    if v15 ≤ y6 then
    k18 y6
    else
    k18 v15)) (fun k16 =>
    if v15 ≤ y6 then
    k16 y5
    else
    k16 y8)
def f_X9_fire (N : Nat) (mo_people : Int32) (mo_period : Nat → Int32) (mo_shut : Nat → Int32) (mo_phase : Nat → Int32) (mo_flash : Int32) (p1 : Int32) (p2 : Int32) (p3 : Int32) : Option (Int32) :=
  bd (f_X9_in (Int32.toInt64 p1) (0 : Int64) (999 : Int64)) fun v1 =>
  lc (some (-2 : Int32)) (fun k2 =>
  if v1 = 0 then
  k2
  else
  bd (f_X9_in (Int32.toInt64 p2) (Int32.toInt64 p1) (999 : Int64)) fun v3 =>
  if v3 = 0 then
  k2
  else
  bd (f_X9_in (Int32.toInt64 p3) (0 : Int64) (2 : Int64)) fun v4 =>
  if v4 = 0 then
  k2
  else
  lc (fun (z11 : Int32) (z12 : Int32) (z13 : Int32) => if p3 = 0 then
  some z11
  else
  if p3 = (1 : Int32) then
  some z12
  else
  some z13) (fun k10 =>
  f_X9_fire_L53 mo_people mo_period mo_shut mo_phase mo_flash p2 N k10 N (-6 : Int32) (-1 : Int32) (0 : Int32) p1))
def f_X9_bad (mo_people : Int32) (mo_quarters : Nat → Int32) (mo_tired : Int32) (p1 : Int32) (p2 : Int32) : Option (Int32 × Int32 × (Nat → Int32)) :=
  lc (lc (fun (x4 : Int64) => bd (f_X9_in (Int32.toInt64 p2) (0 : Int64) x4) fun v5 =>
  if v5 = 0 then
  some ((-2 : Int32), mo_tired, mo_quarters)
  else
  lc (fun (x8 : Int32) => if p1 = (-1 : Int32) then
  some (x8, p2, mo_quarters)
  else
  bd (sti mo_quarters 8 p1 p2) fun mo_quarters_9 =>
  some (x8, mo_tired, mo_quarters_9)) (fun k6 =>
  if p1 = (-1 : Int32) then
  k6 mo_tired
  else
  bd (ld mo_quarters 8 p1) fun v7 =>
  k6 v7)) (fun k3 =>
  if p1 = (-1 : Int32) then
  k3 (20 : Int64)
  else
  k3 (4 : Int64))) (fun k1 =>
  if p1 = (-1 : Int32) then
  k1
  else
  bd (f_X9_isPerson mo_people p1) fun v2 =>
  if v2 = 0 then
  some ((-1 : Int32), mo_tired, mo_quarters)
  else
  k1)
def f_X9_quartersOf (mo_quarters : Nat → Int32) (mo_tired : Int32) (p1 : Int32) (p2 : Int32) : Option (Int32) :=
  lc (fun (x4 : Int32) => if x4 ≤ (4 : Int32) then
  some x4
  else
  some (4 : Int32)) (fun k1 =>
  if p2 < mo_tired then
  bd (ld mo_quarters 8 p1) fun v2 =>
  k1 v2
  else
  bd (ld mo_quarters 8 p1) fun v3 =>
  k1 (v3 + (1 : Int32)))
def f_X9_allOpen_L5 (mo_people : Int32) (mo_quarters : Nat → Int32) (mo_tired : Int32) (p1 : Int32) (k4 : Int64 → Option (Int64)) : Nat → Int64 → Int32 → Option (Int64)
  | 0, _, _ => none
  | n + 1, y1, y2 =>
    if mo_people ≤ y2 then
    k4 y1
    else
    bd (f_X9_quartersOf mo_quarters mo_tired y2 p1) fun v6 =>
    f_X9_allOpen_L5 mo_people mo_quarters mo_tired p1 k4 n (y1 * (Int32.toInt64 ((4 : Int32) - v6))) (y2 + (1 : Int32))
def f_X9_allOpen (N : Nat) (mo_people : Int32) (mo_quarters : Nat → Int32) (mo_tired : Int32) (p1 : Int32) : Option (Int64) :=
  lc (fun (z5 : Int64) => some z5) (fun k4 =>
  f_X9_allOpen_L5 mo_people mo_quarters mo_tired p1 k4 N (1 : Int64) (0 : Int32))
def f_X9_lowest_L6 (k4 : Int64 → Option (Int64)) : Nat → Int64 → Int64 → Option (Int64)
  | 0, _, _ => none
  | n + 1, y1, y2 =>
    if (lg_cmp y2 (0 : Int64)) = 0 then
    k4 y1
    else
    bd (lrm y1 y2) fun v6 =>
    f_X9_lowest_L6 k4 n y2 v6
def f_X9_lowest (N : Nat) (p1 : Int64) (p2 : Int64) (p3 : Int32) : Option (Int64) :=
  lc (fun (z5 : Int64) => if p3 = 0 then
  bd (ldv p1 z5) fun v8 =>
  some v8
  else
  bd (ldv p2 z5) fun v7 =>
  some v7) (fun k4 =>
  f_X9_lowest_L6 k4 N p2 p1)
def f_X9_likely (N : Nat) (mo_people : Int32) (mo_quarters : Nat → Int32) (mo_tired : Int32) (p1 : Int32) (p2 : Int32) : Option (Int64) :=
  bd (f_X9_in (Int32.toInt64 p1) (0 : Int64) (20 : Int64)) fun v1 =>
  lc (some (-1000000000000000002 : Int64)) (fun k2 =>
  if v1 = 0 then
  k2
  else
  bd (f_X9_in (Int32.toInt64 p2) (0 : Int64) (1 : Int64)) fun v3 =>
  if v3 = 0 then
  k2
  else
  bd (f_X9_allOpen N mo_people mo_quarters mo_tired p1) fun v4 =>
  bd (f_X9_lowest N v4 ((1 : Int64) <<< (Int32.toInt64 ((2 : Int32) * mo_people) &&& 63)) p2) fun v5 =>
  some v5)
def f_X9_noneOf_L5 (mo_people : Int32) (mo_quarters : Nat → Int32) (mo_tired : Int32) (p1 : Int32) (N : Nat) (k4 : Int64 → Option (Int64)) : Nat → Int64 → Int32 → Option (Int64)
  | 0, _, _ => none
  | n + 1, y1, y2 =>
    if p1 ≤ y2 then
    k4 y1
    else
    bd (f_X9_allOpen N mo_people mo_quarters mo_tired y2) fun v6 =>
    f_X9_noneOf_L5 mo_people mo_quarters mo_tired p1 N k4 n (y1 * (((1 : Int64) <<< (Int32.toInt64 ((2 : Int32) * mo_people) &&& 63)) - v6)) (y2 + (1 : Int32))
def f_X9_noneOf (N : Nat) (mo_people : Int32) (mo_quarters : Nat → Int32) (mo_tired : Int32) (p1 : Int32) : Option (Int64) :=
  lc (fun (z5 : Int64) => some z5) (fun k4 =>
  f_X9_noneOf_L5 mo_people mo_quarters mo_tired p1 N k4 N (1 : Int64) (0 : Int32))
def f_X9_one (N : Nat) (mo_people : Int32) (mo_quarters : Nat → Int32) (mo_tired : Int32) (p1 : Int32) (p2 : Int32) : Option (Int64) :=
  bd (f_X9_in (Int32.toInt64 p1) (1 : Int64) (3 : Int64)) fun v1 =>
  lc (some (-1000000000000000002 : Int64)) (fun k2 =>
  if v1 = 0 then
  k2
  else
  bd (f_X9_in (Int32.toInt64 p2) (0 : Int64) (1 : Int64)) fun v3 =>
  if v3 = 0 then
  k2
  else
  bd (f_X9_noneOf N mo_people mo_quarters mo_tired p1) fun v4 =>
  bd (f_X9_lowest N (((1 : Int64) <<< (Int32.toInt64 (((2 : Int32) * mo_people) * p1) &&& 63)) - v4) ((1 : Int64) <<< (Int32.toInt64 (((2 : Int32) * mo_people) * p1) &&& 63)) p2) fun v5 =>
  some v5)
def f_X9_many_L28 (mo_people : Int32) (mo_quarters : Nat → Int32) (mo_tired : Int32) (p1 : Int32) (p2 : Int32) (N : Nat) (k6 : Option (Int32)) : Nat → Int32 → Option (Int32)
  | 0, _ => none
  | n + 1, y4 =>
    if (4 : Int32) ≤ y4 then
    k6
    else
    bd (f_X9_noneOf N mo_people mo_quarters mo_tired y4) fun v7 =>
    if (lg_cmp ((((1 : Int64) <<< (Int32.toInt64 (((2 : Int32) * mo_people) * y4) &&& 63)) - v7) * (Int32.toInt64 p2)) ((Int32.toInt64 p1) * ((1 : Int64) <<< (Int32.toInt64 (((2 : Int32) * mo_people) * y4) &&& 63)))) < 0 then
    f_X9_many_L28 mo_people mo_quarters mo_tired p1 p2 N k6 n (y4 + (1 : Int32))
    else
    some y4
def f_X9_many (N : Nat) (mo_people : Int32) (mo_quarters : Nat → Int32) (mo_tired : Int32) (p1 : Int32) (p2 : Int32) : Option (Int32) :=
  bd (f_X9_in (Int32.toInt64 p2) (1 : Int64) (100 : Int64)) fun v1 =>
  lc (some (-2 : Int32)) (fun k2 =>
  if v1 = 0 then
  k2
  else
  bd (f_X9_in (Int32.toInt64 p1) (0 : Int64) (Int32.toInt64 p2)) fun v3 =>
  if v3 = 0 then
  k2
  else
  lc (some (-6 : Int32)) (fun k6 =>
  f_X9_many_L28 mo_people mo_quarters mo_tired p1 p2 N k6 N (1 : Int32)))
def f_X9_shoot_L62 (mo_people : Int32) (mo_quarters : Nat → Int32) (mo_tired : Int32) (y8 : Int32) (k17 : Int32 → Int32 → Option (Int32)) : Nat → Int32 → Int32 → Int32 → Option (Int32)
  | 0, _, _, _ => none
  | n + 1, y13, y14, y15 =>
    if mo_people ≤ y15 then
    k17 y13 y14
    else
    bd (lrm (((75 : Int64) * (Int32.toInt64 y13)) + (74 : Int64)) (65537 : Int64)) fun v20 =>
    lc (fun (x25 : Int32) => f_X9_shoot_L62 mo_people mo_quarters mo_tired y8 k17 n (Int64.toInt32 v20) x25 (y15 + (1 : Int32))) (fun k22 =>
    lc (k22 (0 : Int32)) (fun k21 =>
    if y14 = 0 then
    k21
    else
    bd (irm (Int64.toInt32 v20) (4 : Int32)) fun v23 =>
    bd (f_X9_quartersOf mo_quarters mo_tired y15 y8) fun v24 =>
    if v23 < v24 then
    k21
    else
    k22 (1 : Int32)))
def f_X9_shoot_L50 (mo_people : Int32) (mo_quarters : Nat → Int32) (mo_tired : Int32) (p2 : Int32) (N : Nat) (k10 : Int32 → Int32 → Option (Int32)) : Nat → Int32 → Int32 → Int32 → Int32 → Option (Int32)
  | 0, _, _, _, _ => none
  | n + 1, y5, y6, y7, y8 =>
    if p2 ≤ y8 then
    k10 y6 y7
    else
    lc (fun (z18 : Int32) (z19 : Int32) => lc (fun (x28 : Int32) => lc (fun (x30 : Int32) => f_X9_shoot_L50 mo_people mo_quarters mo_tired p2 N k10 n z18 x28 (y7 + x30) (y8 + (1 : Int32))) (fun k29 =>
    if z19 = 0 then
    k29 (0 : Int32)
    else
    k29 (1 : Int32))) (fun k27 =>
    lc (k27 y6) (fun k26 =>
    if z19 = 0 then
    k26
    else
    if 0 ≤ y6 then
    k26
    else
    k27 y8))) (fun k17 =>
    f_X9_shoot_L62 mo_people mo_quarters mo_tired y8 k17 N y5 (1 : Int32) (0 : Int32))
def f_X9_shoot (N : Nat) (mo_people : Int32) (mo_quarters : Nat → Int32) (mo_tired : Int32) (p1 : Int32) (p2 : Int32) (p3 : Int32) : Option (Int32) :=
  bd (f_X9_in (Int32.toInt64 p1) (0 : Int64) (9999 : Int64)) fun v1 =>
  lc (some (-2 : Int32)) (fun k2 =>
  if v1 = 0 then
  k2
  else
  bd (f_X9_in (Int32.toInt64 p2) (1 : Int64) (30 : Int64)) fun v3 =>
  if v3 = 0 then
  k2
  else
  bd (f_X9_in (Int32.toInt64 p3) (0 : Int64) (1 : Int64)) fun v4 =>
  if v4 = 0 then
  k2
  else
  lc (fun (z11 : Int32) (z12 : Int32) => if p3 = 0 then
  some z11
  else
  some z12) (fun k10 =>
  f_X9_shoot_L50 mo_people mo_quarters mo_tired p2 N k10 N p1 (-6 : Int32) (0 : Int32) (0 : Int32)))
def f_X9_stair (mo_rows : Int32) (mo_columns : Int32) (p1 : Int32) (p2 : Int32) : Option (Int32 × Int32 × Int32) :=
  bd (f_X9_in (Int32.toInt64 p1) (1 : Int64) (3 : Int64)) fun v1 =>
  lc (some ((-2 : Int32), mo_rows, mo_columns)) (fun k2 =>
  if v1 = 0 then
  k2
  else
  bd (f_X9_in (Int32.toInt64 p2) (1 : Int64) (4 : Int64)) fun v3 =>
  if v3 = 0 then
  k2
  else
  if (p1 * p2) ≤ (8 : Int32) then
  some ((p1 * p2), p1, p2)
  else
  k2)
def f_X9_tall (mo_people : Int32) (mo_rise : Int32) (mo_tall : Nat → Int32) (p1 : Int32) (p2 : Int32) : Option (Int32 × Int32 × (Nat → Int32)) :=
  lc (lc (fun (x4 : Int64) => bd (f_X9_in (Int32.toInt64 p2) (0 : Int64) x4) fun v5 =>
  if v5 = 0 then
  some ((-2 : Int32), mo_rise, mo_tall)
  else
  lc (fun (x8 : Int32) => if p1 = (-1 : Int32) then
  some (x8, p2, mo_tall)
  else
  bd (sti mo_tall 8 p1 p2) fun mo_tall_9 =>
  some (x8, mo_rise, mo_tall_9)) (fun k6 =>
  if p1 = (-1 : Int32) then
  k6 mo_rise
  else
  bd (ld mo_tall 8 p1) fun v7 =>
  k6 v7)) (fun k3 =>
  if p1 = (-1 : Int32) then
  k3 (50 : Int64)
  else
  k3 (250 : Int64))) (fun k1 =>
  if p1 = (-1 : Int32) then
  k1
  else
  bd (f_X9_isPerson mo_people p1) fun v2 =>
  if v2 = 0 then
  some ((-1 : Int32), mo_rise, mo_tall)
  else
  k1)
def f_X9_pair (mo_people : Int32) (mo_pairs : Nat → Int32) (p1 : Int32) (p2 : Int32) (p3 : Int32) : Option (Int32 × (Nat → Int32)) :=
  bd (f_X9_isPerson mo_people p1) fun v1 =>
  if v1 = 0 then
  some ((-1 : Int32), mo_pairs)
  else
  bd (f_X9_isPerson mo_people p2) fun v2 =>
  if v2 = 0 then
  some ((-1 : Int32), mo_pairs)
  else
  if p1 = p2 then
  some ((-1 : Int32), mo_pairs)
  else
  bd (f_X9_in (Int32.toInt64 p3) (0 : Int64) (2 : Int64)) fun v3 =>
  if v3 = 0 then
  some ((-2 : Int32), mo_pairs)
  else
  bd (ld mo_pairs 64 (((8 : Int32) * p1) + p2)) fun v4 =>
  bd (sti mo_pairs 64 (((8 : Int32) * p1) + p2) p3) fun mo_pairs_5 =>
  bd (sti mo_pairs_5 64 (((8 : Int32) * p2) + p1) p3) fun mo_pairs_6 =>
  some (v4, mo_pairs_6)
def f_X9_heightOf (mo_columns : Int32) (mo_rise : Int32) (mo_tall : Nat → Int32) (mo_at : Nat → Int32) (p1 : Int32) : Option (Int32) :=
  bd (ld mo_tall 8 p1) fun v1 =>
  bd (ld mo_at 8 p1) fun v2 =>
  bd (idv v2 mo_columns) fun v3 =>
  some (v1 + (mo_rise * v3))
def f_X9_isHidden (mo_columns : Int32) (mo_rise : Int32) (mo_tall : Nat → Int32) (mo_at : Nat → Int32) (p1 : Int32) (p2 : Int32) : Option (Int32) :=
  bd (ld mo_at 8 p1) fun v1 =>
  bd (irm v1 mo_columns) fun v2 =>
  bd (ld mo_at 8 p2) fun v3 =>
  bd (irm v3 mo_columns) fun v4 =>
  if v2 = v4 then
  bd (ld mo_at 8 p2) fun v5 =>
  bd (idv v5 mo_columns) fun v6 =>
  bd (ld mo_at 8 p1) fun v7 =>
  bd (idv v7 mo_columns) fun v8 =>
  if v8 ≤ v6 then
  some (0 : Int32)
  else
  bd (f_X9_heightOf mo_columns mo_rise mo_tall mo_at p1) fun v9 =>
  bd (f_X9_heightOf mo_columns mo_rise mo_tall mo_at p2) fun v10 =>
  if v10 < v9 then
  some (0 : Int32)
  else
  some (1 : Int32)
  else
  some (0 : Int32)
def f_X9_areBeside (mo_columns : Int32) (mo_at : Nat → Int32) (p1 : Int32) (p2 : Int32) : Option (Int32) :=
  bd (ld mo_at 8 p1) fun v1 =>
  bd (irm v1 mo_columns) fun v2 =>
  bd (ld mo_at 8 p2) fun v3 =>
  bd (irm v3 mo_columns) fun v4 =>
  bd (ld mo_at 8 p1) fun v5 =>
  bd (idv v5 mo_columns) fun v6 =>
  bd (ld mo_at 8 p2) fun v7 =>
  bd (idv v7 mo_columns) fun v8 =>
  if (((v2 - v4) * (v2 - v4)) + ((v6 - v8) * (v6 - v8))) = (1 : Int32) then
  some (1 : Int32)
  else
  some (0 : Int32)
def f_X9_wrongWith_L5 (mo_people : Int32) (mo_columns : Int32) (mo_rise : Int32) (mo_tall : Nat → Int32) (mo_pairs : Nat → Int32) (mo_at : Nat → Int32) (p1 : Int32) (k4 : Int32 → Option (Int32)) : Nat → Int32 → Int32 → Option (Int32)
  | 0, _, _ => none
  | n + 1, y1, y2 =>
    if mo_people ≤ y2 then
    k4 y1
    else
    lc (fun (x19 : Int32) => f_X9_wrongWith_L5 mo_people mo_columns mo_rise mo_tall mo_pairs mo_at p1 k4 n x19 (y2 + (1 : Int32))) (fun k6 =>
    if y2 = p1 then
    k6 y1
    else
    bd (ld mo_pairs 64 (((8 : Int32) * p1) + y2)) fun v7 =>
    bd (f_X9_isHidden mo_columns mo_rise mo_tall mo_at p1 y2) fun v8 =>
    lc (fun (x14 : Int32) => lc (fun (x18 : Int32) => k6 x18) (fun k16 =>
    lc (k16 y1) (fun k15 =>
    if x14 < 0 then
    k15
    else
    lc (k16 x14) (fun k17 =>
    if y1 < 0 then
    k17
    else
    if y1 ≤ x14 then
    k15
    else
    k17)))) (fun k9 =>
    if v8 = 0 then
    lc (lc (k9 (-6 : Int32)) (fun k12 =>
    if v7 = (2 : Int32) then
    bd (f_X9_areBeside mo_columns mo_at p1 y2) fun v13 =>
    if v13 = 0 then
    k9 (3 : Int32)
    else
    k12
    else
    k12)) (fun k10 =>
    if v7 = (1 : Int32) then
    bd (f_X9_areBeside mo_columns mo_at p1 y2) fun v11 =>
    if v11 = 0 then
    k10
    else
    k9 (2 : Int32)
    else
    k10)
    else
    k9 (1 : Int32)))
def f_X9_wrongWith (N : Nat) (mo_people : Int32) (mo_columns : Int32) (mo_rise : Int32) (mo_tall : Nat → Int32) (mo_pairs : Nat → Int32) (mo_at : Nat → Int32) (p1 : Int32) : Option (Int32) :=
  lc (fun (z5 : Int32) => some z5) (fun k4 =>
  f_X9_wrongWith_L5 mo_people mo_columns mo_rise mo_tall mo_pairs mo_at p1 k4 N (-6 : Int32) (0 : Int32))
def f_X9_judge_L25 (mo_people : Int32) (mo_pad : Nat → Int32) (k6 : (Nat → Int32) → Option (Int32 × (Nat → Int32))) : Nat → Int32 → (Nat → Int32) → Option (Int32 × (Nat → Int32))
  | 0, _, _ => none
  | n + 1, y3, mo_at_4 =>
    if mo_people ≤ y3 then
    k6 mo_at_4
    else
    bd (ld mo_pad 40 y3) fun v8 =>
    bd (sti mo_at_4 8 y3 (v8 - (48 : Int32))) fun mo_at_9 =>
    f_X9_judge_L25 mo_people mo_pad k6 n (y3 + (1 : Int32)) mo_at_9
def f_X9_judge_L56 (mo_people : Int32) (mo_columns : Int32) (mo_rise : Int32) (mo_tall : Nat → Int32) (mo_pairs : Nat → Int32) (p1 : Int32) (mo_at_7 : Nat → Int32) (N : Nat) (k12 : Option (Int32 × (Nat → Int32))) : Nat → Int32 → Option (Int32 × (Nat → Int32))
  | 0, _ => none
  | n + 1, y10 =>
    if mo_people ≤ y10 then
    k12
    else
    bd (f_X9_wrongWith N mo_people mo_columns mo_rise mo_tall mo_pairs mo_at_7 y10) fun v13 =>
    if v13 < 0 then
    f_X9_judge_L56 mo_people mo_columns mo_rise mo_tall mo_pairs p1 mo_at_7 N k12 n (y10 + (1 : Int32))
    else
    if p1 = 0 then
    some (y10, mo_at_7)
    else
    some (v13, mo_at_7)
def f_X9_judge (N : Nat) (mo_people : Int32) (mo_rows : Int32) (mo_columns : Int32) (mo_rise : Int32) (mo_tall : Nat → Int32) (mo_pairs : Nat → Int32) (mo_pad : Nat → Int32) (mo_padMany : Int32) (mo_at : Nat → Int32) (p1 : Int32) : Option (Int32 × (Nat → Int32)) :=
  bd (f_X9_in (Int32.toInt64 p1) (0 : Int64) (1 : Int64)) fun v1 =>
  if v1 = 0 then
  some ((-2 : Int32), mo_at)
  else
  bd (f_X9_faultOfStanding N mo_people mo_rows mo_columns mo_pad mo_padMany) fun v2 =>
  if v2 < 0 then
  lc (fun (mo_at_7 : Nat → Int32) => lc (some ((-6 : Int32), mo_at_7)) (fun k12 =>
  f_X9_judge_L56 mo_people mo_columns mo_rise mo_tall mo_pairs p1 mo_at_7 N k12 N (0 : Int32))) (fun k6 =>
  f_X9_judge_L25 mo_people mo_pad k6 N (0 : Int32) mo_at)
  else
  some ((-5 : Int32), mo_at)
def f_X9_goesWith_L21 (mo_columns : Int32) (mo_rise : Int32) (mo_tall : Nat → Int32) (mo_pairs : Nat → Int32) (mo_at : Nat → Int32) (p1 : Int32) (k8 : Int32 → Option (Int32)) : Nat → Int32 → Int32 → Option (Int32)
  | 0, _, _ => none
  | n + 1, y5, y6 =>
    if p1 ≤ y6 then
    k8 y5
    else
    if y5 = 0 then
    k8 y5
    else
    bd (ld mo_pairs 64 (((8 : Int32) * p1) + y6)) fun v10 =>
    bd (ld mo_at 8 y6) fun v11 =>
    bd (ld mo_at 8 p1) fun v12 =>
    lc (fun (x21 : Int32) => f_X9_goesWith_L21 mo_columns mo_rise mo_tall mo_pairs mo_at p1 k8 n x21 (y6 + (1 : Int32))) (fun k14 =>
    lc (k14 (0 : Int32)) (fun k13 =>
    if v11 = v12 then
    k13
    else
    bd (f_X9_isHidden mo_columns mo_rise mo_tall mo_at p1 y6) fun v15 =>
    if v15 = 0 then
    bd (f_X9_isHidden mo_columns mo_rise mo_tall mo_at y6 p1) fun v16 =>
    if v16 = 0 then
    lc (lc (k14 (1 : Int32)) (fun k19 =>
    if v10 = (2 : Int32) then
    bd (f_X9_areBeside mo_columns mo_at p1 y6) fun v20 =>
    if v20 = 0 then
    k13
    else
    k19
    else
    k19)) (fun k17 =>
    if v10 = (1 : Int32) then
    bd (f_X9_areBeside mo_columns mo_at p1 y6) fun v18 =>
    if v18 = 0 then
    k17
    else
    k13
    else
    k17)
    else
    k13
    else
    k13))
def f_X9_goesWith (N : Nat) (mo_rows : Int32) (mo_columns : Int32) (mo_rise : Int32) (mo_tall : Nat → Int32) (mo_pairs : Nat → Int32) (mo_at : Nat → Int32) (p1 : Int32) : Option (Int32) :=
  bd (ld mo_at 8 p1) fun v1 =>
  bd (f_X9_places mo_rows mo_columns) fun v2 =>
  lc (fun (x4 : Int32) => lc (fun (z9 : Int32) => bz z9) (fun k8 =>
  f_X9_goesWith_L21 mo_columns mo_rise mo_tall mo_pairs mo_at p1 k8 N x4 (0 : Int32))) (fun k3 =>
  if v2 ≤ v1 then
  k3 (0 : Int32)
  else
  k3 (1 : Int32))
def f_X9_findStandings_L94 (mo_people : Int32) (y2 : Int32) (mo_at_4 : Nat → Int32) (k17 : (Nat → Int32) → Option (Int32 × (Nat → Int32) × (Nat → Int32))) : Nat → Int32 → (Nat → Int32) → Option (Int32 × (Nat → Int32) × (Nat → Int32))
  | 0, _, _ => none
  | n + 1, y14, mo_first_15 =>
    if mo_people ≤ y14 then
    k17 mo_first_15
    else
    if y2 = 0 then
    bd (ld mo_at_4 8 y14) fun v19 =>
    bd (sti mo_first_15 8 y14 v19) fun mo_first_20 =>
    f_X9_findStandings_L94 mo_people y2 mo_at_4 k17 n (y14 + (1 : Int32)) mo_first_20
    else
    k17 mo_first_15
def f_X9_findStandings_L11 (mo_people : Int32) (mo_rows : Int32) (mo_columns : Int32) (mo_rise : Int32) (mo_tall : Nat → Int32) (mo_pairs : Nat → Int32) (N : Nat) (k7 : Int32 → (Nat → Int32) → (Nat → Int32) → Option (Int32 × (Nat → Int32) × (Nat → Int32))) : Nat → Int32 → Int32 → (Nat → Int32) → (Nat → Int32) → Option (Int32 × (Nat → Int32) × (Nat → Int32))
  | 0, _, _, _, _ => none
  | n + 1, y2, y3, mo_at_4, mo_first_5 =>
    if y3 < 0 then
    k7 y2 mo_at_4 mo_first_5
    else
    bd (ld mo_at_4 8 y3) fun v11 =>
    bd (f_X9_places mo_rows mo_columns) fun v12 =>
    if v11 < v12 then
    bd (f_X9_goesWith N mo_rows mo_columns mo_rise mo_tall mo_pairs mo_at_4 y3) fun v13 =>
    if v13 = 0 then
    bd (ld mo_at_4 8 y3) fun v24 =>
    bd (sti mo_at_4 8 y3 (v24 + (1 : Int32))) fun mo_at_25 =>
    f_X9_findStandings_L11 mo_people mo_rows mo_columns mo_rise mo_tall mo_pairs N k7 n y2 y3 mo_at_25 mo_first_5
    else
    if (mo_people - (1 : Int32)) ≤ y3 then
    lc (fun (mo_first_18 : Nat → Int32) => bd (ld mo_at_4 8 y3) fun v21 =>
    bd (sti mo_at_4 8 y3 (v21 + (1 : Int32))) fun mo_at_22 =>
    f_X9_findStandings_L11 mo_people mo_rows mo_columns mo_rise mo_tall mo_pairs N k7 n (y2 + (1 : Int32)) y3 mo_at_22 mo_first_18) (fun k17 =>
    f_X9_findStandings_L94 mo_people y2 mo_at_4 k17 N (0 : Int32) mo_first_5)
    else
    bd (sti mo_at_4 8 (y3 + (1 : Int32)) (0 : Int32)) fun mo_at_23 =>
    f_X9_findStandings_L11 mo_people mo_rows mo_columns mo_rise mo_tall mo_pairs N k7 n y2 (y3 + (1 : Int32)) mo_at_23 mo_first_5
    else
    if (y3 + (-1 : Int32)) < 0 then
    f_X9_findStandings_L11 mo_people mo_rows mo_columns mo_rise mo_tall mo_pairs N k7 n y2 (y3 + (-1 : Int32)) mo_at_4 mo_first_5
    else
    bd (ld mo_at_4 8 (y3 + (-1 : Int32))) fun v26 =>
    bd (sti mo_at_4 8 (y3 + (-1 : Int32)) (v26 + (1 : Int32))) fun mo_at_27 =>
    f_X9_findStandings_L11 mo_people mo_rows mo_columns mo_rise mo_tall mo_pairs N k7 n y2 (y3 + (-1 : Int32)) mo_at_27 mo_first_5
def f_X9_findStandings (N : Nat) (mo_people : Int32) (mo_rows : Int32) (mo_columns : Int32) (mo_rise : Int32) (mo_tall : Nat → Int32) (mo_pairs : Nat → Int32) (mo_at : Nat → Int32) (mo_first : Nat → Int32) : Option (Int32 × (Nat → Int32) × (Nat → Int32)) :=
  bd (sti mo_at 8 (0 : Int32) (0 : Int32)) fun mo_at_1 =>
  lc (fun (z8 : Int32) (mo_at_9 : Nat → Int32) (mo_first_10 : Nat → Int32) => some (z8, mo_at_9, mo_first_10)) (fun k7 =>
  f_X9_findStandings_L11 mo_people mo_rows mo_columns mo_rise mo_tall mo_pairs N k7 N (0 : Int32) (0 : Int32) mo_at_1 mo_first)
def f_X9_placed (N : Nat) (mo_people : Int32) (mo_rows : Int32) (mo_columns : Int32) (mo_rise : Int32) (mo_tall : Nat → Int32) (mo_pairs : Nat → Int32) (mo_at : Nat → Int32) (mo_first : Nat → Int32) (p1 : Int32) : Option (Int32 × (Nat → Int32) × (Nat → Int32)) :=
  bd (f_X9_places mo_rows mo_columns) fun v1 =>
  if mo_people ≤ v1 then
  bd (f_X9_findStandings N mo_people mo_rows mo_columns mo_rise mo_tall mo_pairs mo_at mo_first) fun ⟨v2, mo_at_3, mo_first_4⟩ =>
  if p1 = (-1 : Int32) then
  some (v2, mo_at_3, mo_first_4)
  else
  lc (some ((-6 : Int32), mo_at_3, mo_first_4)) (fun k5 =>
  if v2 ≤ 0 then
  k5
  else
  bd (f_X9_isPerson mo_people p1) fun v6 =>
  if v6 = 0 then
  k5
  else
  bd (ld mo_first_4 8 p1) fun v7 =>
  some (v7, mo_at_3, mo_first_4))
  else
  some ((-3 : Int32), mo_at, mo_first)
def f_X9_pass (mo_kept : Nat → Int32) (mo_keptAt : Int32) (mo_isWriting : Int32) (p1 : Int32) : Option (Int32 × Int32 × (Nat → Int32)) :=
  lc (fun (x3 : Int32) => bd (sti mo_kept 480 mo_keptAt x3) fun mo_kept_4 =>
  some (x3, (mo_keptAt + (1 : Int32)), mo_kept_4)) (fun k1 =>
  if mo_isWriting = 0 then
  bd (ld mo_kept 480 mo_keptAt) fun v2 =>
  k1 v2
  else
  k1 p1)
def f_X9_passAll_L110 (mo_isWriting : Int32) (k33 : Int32 → (Nat → Int32) → (Nat → Int32) → Option (Int32 × Int32 × Int32 × Int32 × Int32 × Int32 × Int32 × Int32 × Int32 × Int32 × (Nat → Int32) × (Nat → Int32) × (Nat → Int32) × (Nat → Int32) × (Nat → Int32) × (Nat → Int32) × (Nat → Int32) × (Nat → Int32))) : Nat → Int32 → Int32 → (Nat → Int32) → (Nat → Int32) → Option (Int32 × Int32 × Int32 × Int32 × Int32 × Int32 × Int32 × Int32 × Int32 × Int32 × (Nat → Int32) × (Nat → Int32) × (Nat → Int32) × (Nat → Int32) × (Nat → Int32) × (Nat → Int32) × (Nat → Int32) × (Nat → Int32))
  | 0, _, _, _, _ => none
  | n + 1, y28, mo_keptAt_29, mo_looks_30, mo_kept_31 =>
    if (80 : Int32) ≤ y28 then
    k33 mo_keptAt_29 mo_looks_30 mo_kept_31
    else
    bd (ld mo_looks_30 80 y28) fun v37 =>
    bd (f_X9_pass mo_kept_31 mo_keptAt_29 mo_isWriting v37) fun ⟨v38, mo_keptAt_39, mo_kept_40⟩ =>
    bd (sti mo_looks_30 80 y28 v38) fun mo_looks_41 =>
    f_X9_passAll_L110 mo_isWriting k33 n (y28 + (1 : Int32)) mo_keptAt_39 mo_looks_41 mo_kept_40
def f_X9_passAll_L140 (mo_isWriting : Int32) (k51 : Int32 → (Nat → Int32) → (Nat → Int32) → (Nat → Int32) → (Nat → Int32) → (Nat → Int32) → (Nat → Int32) → Option (Int32 × Int32 × Int32 × Int32 × Int32 × Int32 × Int32 × Int32 × Int32 × Int32 × (Nat → Int32) × (Nat → Int32) × (Nat → Int32) × (Nat → Int32) × (Nat → Int32) × (Nat → Int32) × (Nat → Int32) × (Nat → Int32))) : Nat → Int32 → Int32 → (Nat → Int32) → (Nat → Int32) → (Nat → Int32) → (Nat → Int32) → (Nat → Int32) → (Nat → Int32) → Option (Int32 × Int32 × Int32 × Int32 × Int32 × Int32 × Int32 × Int32 × Int32 × Int32 × (Nat → Int32) × (Nat → Int32) × (Nat → Int32) × (Nat → Int32) × (Nat → Int32) × (Nat → Int32) × (Nat → Int32) × (Nat → Int32))
  | 0, _, _, _, _, _, _, _, _ => none
  | n + 1, y42, mo_keptAt_43, mo_period_44, mo_shut_45, mo_phase_46, mo_quarters_47, mo_tall_48, mo_kept_49 =>
    if (8 : Int32) ≤ y42 then
    k51 mo_keptAt_43 mo_period_44 mo_shut_45 mo_phase_46 mo_quarters_47 mo_tall_48 mo_kept_49
    else
    bd (ld mo_period_44 8 y42) fun v59 =>
    bd (f_X9_pass mo_kept_49 mo_keptAt_43 mo_isWriting v59) fun ⟨v60, mo_keptAt_61, mo_kept_62⟩ =>
    bd (sti mo_period_44 8 y42 v60) fun mo_period_63 =>
    bd (ld mo_shut_45 8 y42) fun v64 =>
    bd (f_X9_pass mo_kept_62 mo_keptAt_61 mo_isWriting v64) fun ⟨v65, mo_keptAt_66, mo_kept_67⟩ =>
    bd (sti mo_shut_45 8 y42 v65) fun mo_shut_68 =>
    bd (ld mo_phase_46 8 y42) fun v69 =>
    bd (f_X9_pass mo_kept_67 mo_keptAt_66 mo_isWriting v69) fun ⟨v70, mo_keptAt_71, mo_kept_72⟩ =>
    bd (sti mo_phase_46 8 y42 v70) fun mo_phase_73 =>
    bd (ld mo_quarters_47 8 y42) fun v74 =>
    bd (f_X9_pass mo_kept_72 mo_keptAt_71 mo_isWriting v74) fun ⟨v75, mo_keptAt_76, mo_kept_77⟩ =>
    bd (sti mo_quarters_47 8 y42 v75) fun mo_quarters_78 =>
    bd (ld mo_tall_48 8 y42) fun v79 =>
    bd (f_X9_pass mo_kept_77 mo_keptAt_76 mo_isWriting v79) fun ⟨v80, mo_keptAt_81, mo_kept_82⟩ =>
    bd (sti mo_tall_48 8 y42 v80) fun mo_tall_83 =>
    f_X9_passAll_L140 mo_isWriting k51 n (y42 + (1 : Int32)) mo_keptAt_81 mo_period_63 mo_shut_68 mo_phase_73 mo_quarters_78 mo_tall_83 mo_kept_82
def f_X9_passAll_L234 (mo_isWriting : Int32) (k89 : Int32 → (Nat → Int32) → (Nat → Int32) → Option (Int32 × Int32 × Int32 × Int32 × Int32 × Int32 × Int32 × Int32 × Int32 × Int32 × (Nat → Int32) × (Nat → Int32) × (Nat → Int32) × (Nat → Int32) × (Nat → Int32) × (Nat → Int32) × (Nat → Int32) × (Nat → Int32))) : Nat → Int32 → Int32 → (Nat → Int32) → (Nat → Int32) → Option (Int32 × Int32 × Int32 × Int32 × Int32 × Int32 × Int32 × Int32 × Int32 × Int32 × (Nat → Int32) × (Nat → Int32) × (Nat → Int32) × (Nat → Int32) × (Nat → Int32) × (Nat → Int32) × (Nat → Int32) × (Nat → Int32))
  | 0, _, _, _, _ => none
  | n + 1, y84, mo_keptAt_85, mo_pairs_86, mo_kept_87 =>
    if (64 : Int32) ≤ y84 then
    k89 mo_keptAt_85 mo_pairs_86 mo_kept_87
    else
    bd (ld mo_pairs_86 64 y84) fun v93 =>
    bd (f_X9_pass mo_kept_87 mo_keptAt_85 mo_isWriting v93) fun ⟨v94, mo_keptAt_95, mo_kept_96⟩ =>
    bd (sti mo_pairs_86 64 y84 v94) fun mo_pairs_97 =>
    f_X9_passAll_L234 mo_isWriting k89 n (y84 + (1 : Int32)) mo_keptAt_95 mo_pairs_97 mo_kept_96
def f_X9_passAll (N : Nat) (mo_people : Int32) (mo_shots : Int32) (mo_looks : Nat → Int32) (mo_bride : Int32) (mo_hands : Int32) (mo_period : Nat → Int32) (mo_shut : Nat → Int32) (mo_phase : Nat → Int32) (mo_flash : Int32) (mo_quarters : Nat → Int32) (mo_tired : Int32) (mo_rows : Int32) (mo_columns : Int32) (mo_rise : Int32) (mo_tall : Nat → Int32) (mo_pairs : Nat → Int32) (mo_kept : Nat → Int32) (mo_keptAt : Int32) (mo_isWriting : Int32) : Option (Int32 × Int32 × Int32 × Int32 × Int32 × Int32 × Int32 × Int32 × Int32 × Int32 × (Nat → Int32) × (Nat → Int32) × (Nat → Int32) × (Nat → Int32) × (Nat → Int32) × (Nat → Int32) × (Nat → Int32) × (Nat → Int32)) :=
  bd (f_X9_pass mo_kept mo_keptAt mo_isWriting mo_people) fun ⟨v1, mo_keptAt_2, mo_kept_3⟩ =>
  bd (f_X9_pass mo_kept_3 mo_keptAt_2 mo_isWriting mo_shots) fun ⟨v4, mo_keptAt_5, mo_kept_6⟩ =>
  bd (f_X9_pass mo_kept_6 mo_keptAt_5 mo_isWriting mo_bride) fun ⟨v7, mo_keptAt_8, mo_kept_9⟩ =>
  bd (f_X9_pass mo_kept_9 mo_keptAt_8 mo_isWriting mo_hands) fun ⟨v10, mo_keptAt_11, mo_kept_12⟩ =>
  bd (f_X9_pass mo_kept_12 mo_keptAt_11 mo_isWriting mo_flash) fun ⟨v13, mo_keptAt_14, mo_kept_15⟩ =>
  bd (f_X9_pass mo_kept_15 mo_keptAt_14 mo_isWriting mo_tired) fun ⟨v16, mo_keptAt_17, mo_kept_18⟩ =>
  bd (f_X9_pass mo_kept_18 mo_keptAt_17 mo_isWriting mo_rows) fun ⟨v19, mo_keptAt_20, mo_kept_21⟩ =>
  bd (f_X9_pass mo_kept_21 mo_keptAt_20 mo_isWriting mo_columns) fun ⟨v22, mo_keptAt_23, mo_kept_24⟩ =>
  bd (f_X9_pass mo_kept_24 mo_keptAt_23 mo_isWriting mo_rise) fun ⟨v25, mo_keptAt_26, mo_kept_27⟩ =>
  lc (fun (mo_keptAt_34 : Int32) (mo_looks_35 : Nat → Int32) (mo_kept_36 : Nat → Int32) => lc (fun (mo_keptAt_52 : Int32) (mo_period_53 : Nat → Int32) (mo_shut_54 : Nat → Int32) (mo_phase_55 : Nat → Int32) (mo_quarters_56 : Nat → Int32) (mo_tall_57 : Nat → Int32) (mo_kept_58 : Nat → Int32) => lc (fun (mo_keptAt_90 : Int32) (mo_pairs_91 : Nat → Int32) (mo_kept_92 : Nat → Int32) => some (v1, v4, v7, v10, v13, v16, v19, v22, v25, mo_keptAt_90, mo_looks_35, mo_period_53, mo_shut_54, mo_phase_55, mo_quarters_56, mo_tall_57, mo_pairs_91, mo_kept_92)) (fun k89 =>
  f_X9_passAll_L234 mo_isWriting k89 N (0 : Int32) mo_keptAt_52 mo_pairs mo_kept_58)) (fun k51 =>
  f_X9_passAll_L140 mo_isWriting k51 N (0 : Int32) mo_keptAt_34 mo_period mo_shut mo_phase mo_quarters mo_tall mo_kept_36)) (fun k33 =>
  f_X9_passAll_L110 mo_isWriting k33 N (0 : Int32) mo_keptAt_26 mo_looks mo_kept_27)
def f_X9_image (N : Nat) (mo_people : Int32) (mo_shots : Int32) (mo_looks : Nat → Int32) (mo_bride : Int32) (mo_hands : Int32) (mo_period : Nat → Int32) (mo_shut : Nat → Int32) (mo_phase : Nat → Int32) (mo_flash : Int32) (mo_quarters : Nat → Int32) (mo_tired : Int32) (mo_rows : Int32) (mo_columns : Int32) (mo_rise : Int32) (mo_tall : Nat → Int32) (mo_pairs : Nat → Int32) (mo_kept : Nat → Int32) (mo_isKept : Nat → Int32) (mo_keptAt : Int32) (mo_isWriting : Int32) (p1 : Int32) : Option (Int32 × Int32 × Int32 × Int32 × Int32 × Int32 × Int32 × Int32 × Int32 × Int32 × Int32 × Int32 × (Nat → Int32) × (Nat → Int32) × (Nat → Int32) × (Nat → Int32) × (Nat → Int32) × (Nat → Int32) × (Nat → Int32) × (Nat → Int32) × (Nat → Int32)) :=
  bd (f_X9_in (Int32.toInt64 p1) (0 : Int64) (1 : Int64)) fun v1 =>
  if v1 = 0 then
  some ((-2 : Int32), mo_people, mo_shots, mo_bride, mo_hands, mo_flash, mo_tired, mo_rows, mo_columns, mo_rise, mo_keptAt, mo_isWriting, mo_looks, mo_period, mo_shut, mo_phase, mo_quarters, mo_tall, mo_pairs, mo_kept, mo_isKept)
  else
  bd (f_X9_passAll N mo_people mo_shots mo_looks mo_bride mo_hands mo_period mo_shut mo_phase mo_flash mo_quarters mo_tired mo_rows mo_columns mo_rise mo_tall mo_pairs mo_kept ((240 : Int32) * p1) (1 : Int32)) fun ⟨mo_people_2, mo_shots_3, mo_bride_4, mo_hands_5, mo_flash_6, mo_tired_7, mo_rows_8, mo_columns_9, mo_rise_10, mo_keptAt_11, mo_looks_12, mo_period_13, mo_shut_14, mo_phase_15, mo_quarters_16, mo_tall_17, mo_pairs_18, mo_kept_19⟩ =>
  bd (sti mo_isKept 2 p1 (1 : Int32)) fun mo_isKept_20 =>
  some ((1 : Int32), mo_people_2, mo_shots_3, mo_bride_4, mo_hands_5, mo_flash_6, mo_tired_7, mo_rows_8, mo_columns_9, mo_rise_10, mo_keptAt_11, (1 : Int32), mo_looks_12, mo_period_13, mo_shut_14, mo_phase_15, mo_quarters_16, mo_tall_17, mo_pairs_18, mo_kept_19, mo_isKept_20)
def f_X9_restore (N : Nat) (mo_people : Int32) (mo_shots : Int32) (mo_looks : Nat → Int32) (mo_bride : Int32) (mo_hands : Int32) (mo_period : Nat → Int32) (mo_shut : Nat → Int32) (mo_phase : Nat → Int32) (mo_flash : Int32) (mo_quarters : Nat → Int32) (mo_tired : Int32) (mo_rows : Int32) (mo_columns : Int32) (mo_rise : Int32) (mo_tall : Nat → Int32) (mo_pairs : Nat → Int32) (mo_kept : Nat → Int32) (mo_isKept : Nat → Int32) (mo_keptAt : Int32) (mo_isWriting : Int32) (p1 : Int32) : Option (Int32 × Int32 × Int32 × Int32 × Int32 × Int32 × Int32 × Int32 × Int32 × Int32 × Int32 × Int32 × (Nat → Int32) × (Nat → Int32) × (Nat → Int32) × (Nat → Int32) × (Nat → Int32) × (Nat → Int32) × (Nat → Int32) × (Nat → Int32)) :=
  bd (f_X9_in (Int32.toInt64 p1) (0 : Int64) (1 : Int64)) fun v1 =>
  if v1 = 0 then
  some ((-2 : Int32), mo_people, mo_shots, mo_bride, mo_hands, mo_flash, mo_tired, mo_rows, mo_columns, mo_rise, mo_keptAt, mo_isWriting, mo_looks, mo_period, mo_shut, mo_phase, mo_quarters, mo_tall, mo_pairs, mo_kept)
  else
  bd (ld mo_isKept 2 p1) fun v2 =>
  if v2 = 0 then
  some ((-3 : Int32), mo_people, mo_shots, mo_bride, mo_hands, mo_flash, mo_tired, mo_rows, mo_columns, mo_rise, mo_keptAt, mo_isWriting, mo_looks, mo_period, mo_shut, mo_phase, mo_quarters, mo_tall, mo_pairs, mo_kept)
  else
  bd (f_X9_passAll N mo_people mo_shots mo_looks mo_bride mo_hands mo_period mo_shut mo_phase mo_flash mo_quarters mo_tired mo_rows mo_columns mo_rise mo_tall mo_pairs mo_kept ((240 : Int32) * p1) (0 : Int32)) fun ⟨mo_people_3, mo_shots_4, mo_bride_5, mo_hands_6, mo_flash_7, mo_tired_8, mo_rows_9, mo_columns_10, mo_rise_11, mo_keptAt_12, mo_looks_13, mo_period_14, mo_shut_15, mo_phase_16, mo_quarters_17, mo_tall_18, mo_pairs_19, mo_kept_20⟩ =>
  some ((1 : Int32), mo_people_3, mo_shots_4, mo_bride_5, mo_hands_6, mo_flash_7, mo_tired_8, mo_rows_9, mo_columns_10, mo_rise_11, mo_keptAt_12, (0 : Int32), mo_looks_13, mo_period_14, mo_shut_15, mo_phase_16, mo_quarters_17, mo_tall_18, mo_pairs_19, mo_kept_20)
def f_X9_told (mo_people : Int32) (mo_shots : Int32) (mo_bride : Int32) (mo_hands : Int32) (mo_flash : Int32) (mo_quarters : Nat → Int32) (mo_tired : Int32) (mo_rows : Int32) (mo_columns : Int32) (mo_rise : Int32) (mo_tall : Nat → Int32) (mo_padMany : Int32) (p1 : Int32) : Option (Int32) :=
  bd (f_X9_in (Int32.toInt64 p1) (10 : Int64) (Int32.toInt64 ((9 : Int32) + mo_people))) fun v1 =>
  if v1 = 0 then
  bd (f_X9_in (Int32.toInt64 p1) (20 : Int64) (Int32.toInt64 ((19 : Int32) + mo_people))) fun v2 =>
  if v2 = 0 then
  if p1 = (0 : Int32) then
  some mo_padMany
  else if p1 = (1 : Int32) then
  some mo_people
  else if p1 = (2 : Int32) then
  some mo_shots
  else if p1 = (3 : Int32) then
  some mo_bride
  else if p1 = (4 : Int32) then
  some mo_hands
  else if p1 = (5 : Int32) then
  some mo_flash
  else if p1 = (6 : Int32) then
  some mo_tired
  else if p1 = (7 : Int32) then
  some mo_rows
  else if p1 = (8 : Int32) then
  some mo_columns
  else if p1 = (9 : Int32) then
  some mo_rise
  else 
  some (-2 : Int32)
  else
  bd (ld mo_quarters 8 (p1 - (20 : Int32))) fun v3 =>
  some v3
  else
  bd (ld mo_tall 8 (p1 - (10 : Int32))) fun v4 =>
  some v4
def f_X8_image_out (p1 : Int32) : Option (Int32) :=
  bd (f_X8_within p1 (0 : Int32) (1 : Int32)) fun v1 =>
  if v1 = 0 then
  some (-2 : Int32)
  else
  none
def f_X8_image_old (oe_kept : Nat → Option Nat) (sc_people : Int32) (sc_bride : Int32) (sh_count : Int32) (sh_hands : Int32) (sh_looks : Nat → Int32) (sh_openBits : Nat → Int32) (bl_flash : Int32) (bl_settings : Nat → Int32) (od_tired : Int32) (od_quarters : Nat → Int32) (st_rows : Int32) (st_columns : Int32) (st_rise : Int32) (st_talls : Nat → Int32) (st_pairs : Nat → Int32) (sh2_looks : Nat → Int32) (sh2_openBits : Nat → Int32) (bl2_settings : Nat → Int32) (od2_quarters : Nat → Int32) (st2_talls : Nat → Int32) (st2_pairs : Nat → Int32) (p1 : Int32) : Option (Int32 × Int32 × Int32 × Int32 × Int32 × (Nat → Int32) × (Nat → Int32) × Int32 × (Nat → Int32) × Int32 × (Nat → Int32) × Int32 × Int32 × Int32 × Int32 × (Nat → Int32) × (Nat → Int32)) :=
  bd (f_X8_within p1 (0 : Int32) (1 : Int32)) fun v1 =>
  if v1 = 0 then
  none
  else
  bd (ld oe_kept 2 p1) fun _ =>
  lc (bd (ld oe_kept 2 p1) fun _ =>
  bd (f_X5_copyFrom sh2_looks sh2_openBits bl2_settings od2_quarters st2_talls st2_pairs sc_people sc_bride sh_count sh_hands sh_looks sh_openBits bl_flash bl_settings od_tired od_quarters st_rows st_columns st_rise st_talls st_pairs) fun ⟨sc2_people_3, sc2_bride_4, sh2_count_5, sh2_hands_6, sh2_looks_7, sh2_openBits_8, bl2_flash_9, bl2_settings_10, od2_tired_11, od2_quarters_12, st2_rows_13, st2_columns_14, st2_rise_15, st2_changed_16, st2_talls_17, st2_pairs_18⟩ =>
  some ((1 : Int32), sc2_people_3, sc2_bride_4, sh2_count_5, sh2_hands_6, sh2_looks_7, sh2_openBits_8, bl2_flash_9, bl2_settings_10, od2_tired_11, od2_quarters_12, st2_rows_13, st2_columns_14, st2_rise_15, st2_changed_16, st2_talls_17, st2_pairs_18)) (fun k2 =>
  k2)
def f_X8_restore_out (p1 : Int32) : Option (Int32) :=
  bd (f_X8_within p1 (0 : Int32) (1 : Int32)) fun v1 =>
  if v1 = 0 then
  some (-2 : Int32)
  else
  none
def f_X8_restore_none (oe_kept : Nat → Option Nat) (p1 : Int32) : Option (Int32) :=
  bd (f_X8_within p1 (0 : Int32) (1 : Int32)) fun v1 =>
  if v1 = 0 then
  none
  else
  bd (ld oe_kept 2 p1) fun _ =>
  some (-3 : Int32)
def f_X8_restore_old (oe_kept : Nat → Option Nat) (sh_looks : Nat → Int32) (sh_openBits : Nat → Int32) (bl_settings : Nat → Int32) (od_quarters : Nat → Int32) (st_talls : Nat → Int32) (st_pairs : Nat → Int32) (sc2_people : Int32) (sc2_bride : Int32) (sh2_count : Int32) (sh2_hands : Int32) (sh2_looks : Nat → Int32) (sh2_openBits : Nat → Int32) (bl2_flash : Int32) (bl2_settings : Nat → Int32) (od2_tired : Int32) (od2_quarters : Nat → Int32) (st2_rows : Int32) (st2_columns : Int32) (st2_rise : Int32) (st2_talls : Nat → Int32) (st2_pairs : Nat → Int32) (p1 : Int32) : Option (Int32 × Int32 × Int32 × Int32 × Int32 × (Nat → Int32) × (Nat → Int32) × Int32 × (Nat → Int32) × Int32 × (Nat → Int32) × Int32 × Int32 × Int32 × Int32 × (Nat → Int32) × (Nat → Int32)) :=
  bd (f_X8_within p1 (0 : Int32) (1 : Int32)) fun v1 =>
  if v1 = 0 then
  none
  else
  bd (ld oe_kept 2 p1) fun _ =>
  bd (ld oe_kept 2 p1) fun _ =>
  bd (f_X5_copyFrom sh_looks sh_openBits bl_settings od_quarters st_talls st_pairs sc2_people sc2_bride sh2_count sh2_hands sh2_looks sh2_openBits bl2_flash bl2_settings od2_tired od2_quarters st2_rows st2_columns st2_rise st2_talls st2_pairs) fun ⟨sc_people_2, sc_bride_3, sh_count_4, sh_hands_5, sh_looks_6, sh_openBits_7, bl_flash_8, bl_settings_9, od_tired_10, od_quarters_11, st_rows_12, st_columns_13, st_rise_14, st_changed_15, st_talls_16, st_pairs_17⟩ =>
  some ((1 : Int32), sc_people_2, sc_bride_3, sh_count_4, sh_hands_5, sh_looks_6, sh_openBits_7, bl_flash_8, bl_settings_9, od_tired_10, od_quarters_11, st_rows_12, st_columns_13, st_rise_14, st_changed_15, st_talls_16, st_pairs_17)
def f_X3_init : Option ((Nat → Int32) × Int32) :=
  some ((fun _ => (0 : Int32)), (0 : Int32))
def f_X6_init : Option (Int32 × Int32 × (Nat → Int32) × (Nat → Int32)) :=
  some ((0 : Int32), (0 : Int32), (fun _ => (0 : Int32)), (fun _ => (0 : Int32)))
def f_X0_init (N : Nat) : Option (Int32 × (Nat → Int32)) :=
  bd (f_X0_startPeople N (fun _ => (0 : Int32))) fun bl_settings_2 =>
  some ((-1 : Int32), bl_settings_2)
def f_X2_init (N : Nat) : Option (Int32 × (Nat → Int32)) :=
  bd (f_X2_startPeople N (fun _ => (0 : Int32))) fun od_quarters_2 =>
  some ((20 : Int32), od_quarters_2)
def f_X7_init (N : Nat) : Option (Int32 × Int32 × Int32 × (Nat → Int32) × (Nat → Int32) × Int32) :=
  bd (f_X7_startPeople N (fun _ => (0 : Int32)) (fun _ => (0 : Int32))) fun ⟨st_changed_3, st_talls_4, st_pairs_5⟩ =>
  some ((2 : Int32), (3 : Int32), (10 : Int32), st_talls_4, st_pairs_5, st_changed_3)
def f_X1_init : Option ((Nat → Int32) × (Nat → Int32)) :=
  some ((fun _ => (0 : Int32)), (fun _ => (0 : Int32)))
def f_X4_init : Option ((Nat → Int64) × (Nat → Int32) × Int32 × Int32) :=
  some ((fun _ => (0 : Int64)), (fun _ => (0 : Int32)), (0 : Int32), (0 : Int32))
def f_X5_init (N : Nat) : Option (Int32 × Int32 × Int32 × Int32 × (Nat → Int32) × (Nat → Int32) × Int32 × (Nat → Int32) × Int32 × (Nat → Int32) × Int32 × Int32 × Int32 × (Nat → Int32) × (Nat → Int32) × Int32) :=
  bd (f_X6_init) fun ⟨sh_count_2, sh_hands_3, sh_looks_4, sh_openBits_5⟩ =>
  bd (f_X0_init N) fun ⟨bl_flash_9, bl_settings_10⟩ =>
  bd (f_X2_init N) fun ⟨od_tired_13, od_quarters_14⟩ =>
  bd (f_X7_init N) fun ⟨st_rows_17, st_columns_18, st_rise_19, st_talls_20, st_pairs_21, st_changed_22⟩ =>
  some ((4 : Int32), (-6 : Int32), sh_count_2, sh_hands_3, sh_looks_4, sh_openBits_5, bl_flash_9, bl_settings_10, od_tired_13, od_quarters_14, st_rows_17, st_columns_18, st_rise_19, st_talls_20, st_pairs_21, st_changed_22)
def f_X8_init (N : Nat) : Option ((Nat → Option Nat) × (Nat → Int32) × (Nat → Int32) × Int32 × Int32 × Int32 × Int32 × Int32 × (Nat → Int32) × (Nat → Int32) × Int32 × (Nat → Int32) × Int32 × (Nat → Int32) × Int32 × Int32 × Int32 × (Nat → Int32) × (Nat → Int32) × Int32 × (Nat → Int32) × (Nat → Int32) × (Nat → Int64) × (Nat → Int32) × Int32 × Int32) :=
  bd (f_X3_init) fun ⟨pa_signs_2, pa_count_3⟩ =>
  bd (f_X5_init N) fun ⟨sc_people_6, sc_bride_7, sh_count_8, sh_hands_9, sh_looks_10, sh_openBits_11, bl_flash_12, bl_settings_13, od_tired_14, od_quarters_15, st_rows_16, st_columns_17, st_rise_18, st_talls_19, st_pairs_20, st_changed_21⟩ =>
  bd (f_X1_init) fun ⟨hw_cutsFrom_34, hw_chosen_35⟩ =>
  bd (f_X4_init) fun ⟨pw_leaves_39, pw_first_40, pw_people_41, pw_count_42⟩ =>
  some ((fun _ => none), (fun _ => (0 : Int32)), pa_signs_2, pa_count_3, sc_people_6, sc_bride_7, sh_count_8, sh_hands_9, sh_looks_10, sh_openBits_11, bl_flash_12, bl_settings_13, od_tired_14, od_quarters_15, st_rows_16, st_columns_17, st_rise_18, st_talls_19, st_pairs_20, st_changed_21, hw_cutsFrom_34, hw_chosen_35, pw_leaves_39, pw_first_40, pw_people_41, pw_count_42)
def f_X9_init (N : Nat) : Option (Int32 × Int32 × (Nat → Int32) × Int32 × Int32 × (Nat → Int32) × (Nat → Int32) × (Nat → Int32) × Int32 × (Nat → Int32) × Int32 × Int32 × Int32 × Int32 × (Nat → Int32) × (Nat → Int32) × (Nat → Int32) × Int32 × (Nat → Int32) × (Nat → Int32) × (Nat → Int32) × (Nat → Int32) × (Nat → Int32) × Int32 × Int32) :=
  bd (f_X9_begin N (fun _ => (0 : Int32)) (fun _ => (0 : Int32)) (fun _ => (0 : Int32)) (fun _ => (0 : Int32)) (fun _ => (0 : Int32)) (fun _ => (0 : Int32)) (4 : Int32)) fun ⟨mo_people_14, mo_shots_15, mo_bride_16, mo_hands_17, mo_period_18, mo_shut_19, mo_phase_20, mo_quarters_21, mo_tall_22, mo_pairs_23⟩ =>
  some (mo_people_14, mo_shots_15, (fun _ => (0 : Int32)), mo_bride_16, mo_hands_17, mo_period_18, mo_shut_19, mo_phase_20, (-1 : Int32), mo_quarters_21, (20 : Int32), (2 : Int32), (3 : Int32), (10 : Int32), mo_tall_22, mo_pairs_23, (fun _ => (0 : Int32)), (0 : Int32), (fun _ => (0 : Int32)), (fun _ => (0 : Int32)), (fun _ => (0 : Int32)), (fun _ => (0 : Int32)), (fun _ => (0 : Int32)), (0 : Int32), (0 : Int32))
