/-! worlds as bags -/
theorem va_P_iff {D : va_G} {cl : List vw_C} {ws : va_W} {H : Heap} : va_P D cl ws H ↔ ∀ q ∈ ws, va_at D cl q H := ⟨fun h q hq => by
  obtain ⟨i, hi⟩ := List.mem_iff_getElem?.mp hq
  exact h i q hi, fun h k q hk => h q (List.mem_of_getElem? hk)⟩
theorem va_D_iff {A : Nat → Prop} {ws : va_W} : va_D A ws ↔ (ws.map Prod.fst).Nodup ∧ ∀ q ∈ ws, A q.1 := by
  constructor
  · intro h
    refine ⟨?_, fun q hq => ?_⟩
    · rw [List.Nodup, List.pairwise_iff_getElem]
      intro i j hi hj hij e
      rw [List.getElem_map, List.getElem_map] at e
      have := h.1 i j _ _ (List.getElem?_eq_getElem (by simpa using hi)) (List.getElem?_eq_getElem (by simpa using hj)) e
      omega
    · obtain ⟨i, hi⟩ := List.mem_iff_getElem?.mp hq
      exact h.2 i q hi
  · rintro ⟨h1, h2⟩
    refine ⟨fun i j x y hi hj hxy => ?_, fun k q hk => h2 q (List.mem_of_getElem? hk)⟩
    rw [List.Nodup, List.pairwise_iff_getElem] at h1
    obtain ⟨li, ei⟩ := List.getElem?_eq_some_iff.mp hi
    obtain ⟨lj, ej⟩ := List.getElem?_eq_some_iff.mp hj
    rcases Nat.lt_trichotomy i j with h | h | h
    · exact absurd (by rw [List.getElem_map, List.getElem_map, ei, ej]; exact hxy) (h1 i j (by simpa using li) (by simpa using lj) h)
    · exact h
    · exact absurd (by rw [List.getElem_map, List.getElem_map, ei, ej]; exact hxy.symm) (h1 j i (by simpa using lj) (by simpa using li) h)
theorem va_P.perm {D : va_G} {cl : List vw_C} {ws ws' : va_W} {H : Heap} (h : va_P D cl ws H) (p : ws.Perm ws') : va_P D cl ws' H := va_P_iff.mpr fun q hq => va_P_iff.mp h q (p.mem_iff.mpr hq)
theorem va_D.perm {A : Nat → Prop} {ws ws' : va_W} (h : va_D A ws) (p : ws.Perm ws') : va_D A ws' := by
  obtain ⟨h1, h2⟩ := va_D_iff.mp h
  exact va_D_iff.mpr ⟨(p.map _).nodup_iff.mp h1, fun q hq => h2 q (p.mem_iff.mpr hq)⟩
theorem va_P.left {D : va_G} {cl : List vw_C} {a b : va_W} {H : Heap} (h : va_P D cl (a ++ b) H) : va_P D cl a H := va_P_iff.mpr fun q hq => va_P_iff.mp h q (List.mem_append_left b hq)
theorem va_P.right {D : va_G} {cl : List vw_C} {a b : va_W} {H : Heap} (h : va_P D cl (a ++ b) H) : va_P D cl b H := va_P_iff.mpr fun q hq => va_P_iff.mp h q (List.mem_append_right a hq)
theorem va_D.left {A : Nat → Prop} {a b : va_W} (h : va_D A (a ++ b)) : va_D A a := by
  obtain ⟨h1, h2⟩ := va_D_iff.mp h
  rw [List.map_append] at h1
  exact va_D_iff.mpr ⟨(List.nodup_append.mp h1).1, fun q hq => h2 q (List.mem_append_left b hq)⟩
theorem rot (a b c : va_W) : (a ++ (b ++ c)).Perm (b ++ (a ++ c)) := by
  rw [← List.append_assoc, ← List.append_assoc]
  exact List.perm_append_comm.append_right c
theorem idxC (a b : va_W) : (List.range a.length).map (fun i => (a ++ b)[i]?) = a.map some := by
  apply List.ext_getElem?
  intro i
  rw [List.getElem?_map, List.getElem?_map]
  by_cases h : i < a.length
  · rw [List.getElem?_range h, Option.map_some, List.getElem?_append_left h, List.getElem?_eq_getElem h]
    rfl
  · rw [List.getElem?_eq_none (by simpa using h), List.getElem?_eq_none (by omega)]
    rfl
theorem idxR (a b : va_W) : ((List.range b.length).map (fun i => i + a.length)).map (fun i => (a ++ b)[i]?) = b.map some := by
  apply List.ext_getElem?
  intro i
  rw [List.getElem?_map, List.getElem?_map, List.getElem?_map]
  by_cases h : i < b.length
  · rw [List.getElem?_range h, Option.map_some, Option.map_some, List.getElem?_append_right (by omega), show i + a.length - a.length = i by omega, List.getElem?_eq_getElem h]
    rfl
  · rw [List.getElem?_eq_none (by simpa using h), List.getElem?_eq_none (by omega)]
    rfl
theorem nd_of : ∀ l : List Nat, l.Nodup → va_nd l = true
  | [], _ => rfl
  | a :: l, h => by
    rw [List.nodup_cons] at h
    simp only [va_nd, Bool.and_eq_true, decide_eq_true_eq]
    exact ⟨h.1, nd_of l h.2⟩
theorem joinA {A0 : Nat → Prop} {D : va_G} {cl : List vw_C} {W0 Y w1 : va_W} {H H1 : Heap} (hP : va_P D cl (W0 ++ Y) H) (hD : va_D A0 (W0 ++ Y)) (hk : ∀ q : Nat, q < H.size → ¬ va_A W0 H.size q → H1[q]? = H[q]?) (hF : ∀ q, va_A W0 H.size q → A0 q) (hP1 : va_P D cl w1 H1) (hD1 : va_D (va_A W0 H.size) w1) : va_P D cl (w1 ++ Y) H1 ∧ va_D A0 (w1 ++ Y) := by
  obtain ⟨a, b⟩ := va_join (wc := W0) (wr := Y) (w1 := w1) hP hD (List.range W0.length) ((List.range Y.length).map (fun i => i + W0.length)) (idxC W0 Y) (idxR W0 Y) (nd_of _ (List.Pairwise.map _ (fun x y h => by omega) List.nodup_range)) (fun i hi hc => by
    obtain ⟨j, hj, rfl⟩ := List.mem_map.mp hi
    have := List.mem_range.mp hc
    omega) hk hF hP1 hD1
  exact ⟨a.perm List.perm_append_comm, b.perm List.perm_append_comm⟩
section LA
variable {p : Program} {l : Launch} {e : Env} {R : Room} {s : State} {m : MethodId} {args : Array Value} {below : List Frame} {meth : Method} {c : Code} {H H0 : Heap} {locs : List Loc} {cells slots : Nat} {Q : State → Prop} {cc : ByteArray} {pc : Nat} {ls : Array Slot} {rest : List Value} {a : Nat} {D : va_G} {A : Nat → Prop}
theorem ct_goA {v : Option Value} {st0 st1 : List Value} {av : Array Value} {W0 Y : va_W} {Wf : va_W → Prop} {mc ms : Nat} (hr : va_Run p l e R s m args below meth c H locs cells slots mc ms (F0 m pc ls st0) rest (CtQ D v Wf (va_A W0 H.size) av) (va_A W0 H.size)) (h1 : v.toList ++ rest = st1) (hP : va_P D vwCl (W0 ++ Y) H) (hD : va_D A (W0 ++ Y)) (hS : va_S A H0 H locs) (hA : ∀ q, H0.size ≤ q → A q)
    (kk : ∀ (w1 : va_W) (H1 : Heap) (locs1 : List Loc), Wf w1 → va_P D vwCl (w1 ++ Y) H1 → va_D A (w1 ++ Y) → va_S A H0 H1 locs1 → W p l e R s m args below meth c H1 locs1 (cells + mc) (slots + ms) Q (F0 m (pc + 3) ls st1)) : W p l e R s m args below meth c H locs cells slots Q (F0 m pc ls st0) := by
  have hFc := va_free (wc := W0) hD hS hA (List.range W0.length) (idxC W0 Y)
  intro T hT X
  obtain ⟨v', st₀, t, T', L, h0, X', hL, e1, e2, ⟨hv, w1, hw1, hP1, hD1, hz, hk⟩, st⟩ := hr T hT X
  cases hv
  subst h1
  rw [h0] at hz hk
  rw [← e1] at hP1 hz hk
  obtain ⟨hP2, hD2⟩ := joinA (w1 := w1) hP hD hk hFc hP1 hD1
  have hS2 : va_S A H0 T'.heap (locs ++ L) := ⟨Nat.le_trans hS.1 hz, fun q h1 h2 => by rw [hk q (Nat.lt_of_lt_of_le h1 hS.1) (fun z => h2 (hFc q z))]; exact hS.2.1 q h1 h2, fun q hq => by
    rcases List.mem_append.mp hq with h | h
    · exact hS.2.2 q h
    · exact hFc _ (hL q h)⟩
  obtain ⟨t2, a1, b1⟩ := kk w1 T'.heap (locs ++ L) hw1 hP2 hD2 hS2 T' rfl X'
  exact ⟨t2, st t2 a1, b1⟩
theorem rw_goA {v : Option Value} {st0 st1 : List Value} {av : Array Value} {W0 W1 Y : va_W} (hr : va_Run p l e R s m args below meth c H locs cells slots 0 0 (F0 m pc ls st0) rest (RwQ D v W1 (va_A W0 H.size) av) (va_A W0 H.size)) (h1 : v.toList ++ rest = st1) (hP : va_P D vwCl (W0 ++ Y) H) (hD : va_D A (W0 ++ Y)) (hS : va_S A H0 H locs) (hA : ∀ q, H0.size ≤ q → A q)
    (kk : ∀ (H1 : Heap) (locs1 : List Loc), va_P D vwCl (W1 ++ Y) H1 → va_D A (W1 ++ Y) → va_S A H0 H1 locs1 → W p l e R s m args below meth c H1 locs1 cells slots Q (F0 m (pc + 3) ls st1)) : W p l e R s m args below meth c H locs cells slots Q (F0 m pc ls st0) := by
  have hFc := va_free (wc := W0) hD hS hA (List.range W0.length) (idxC W0 Y)
  intro T hT X
  obtain ⟨v', st₀, t, T', L, h0, X', hL, e1, e2, ⟨hv, hP1, hD1, hz, hk⟩, st⟩ := hr T hT X
  cases hv
  subst h1
  rw [h0] at hz hk
  rw [← e1] at hP1 hz hk
  obtain ⟨hP2, hD2⟩ := joinA (w1 := W1) hP hD hk hFc hP1 hD1
  have hS2 : va_S A H0 T'.heap (locs ++ L) := ⟨Nat.le_trans hS.1 hz, fun q h1 h2 => by rw [hk q (Nat.lt_of_lt_of_le h1 hS.1) (fun z => h2 (hFc q z))]; exact hS.2.1 q h1 h2, fun q hq => by
    rcases List.mem_append.mp hq with h | h
    · exact hS.2.2 q h
    · exact hFc _ (hL q h)⟩
  obtain ⟨t2, a1, b1⟩ := kk T'.heap (locs ++ L) hP2 hD2 hS2 T' rfl X'
  exact ⟨t2, st t2 a1, b1⟩
theorem rwA {cI cJ cZ cS : ClassId} {nL : Nat} {own : String} (E : Ev p s m args c cc nL own D cI cJ cZ cS) {y : MethodName} {bytes : ByteArray} {maxL n index fr lo : Nat} {ret : Option FieldType} {W0 W1 Y : va_W} {As st0 : List Value} {v : Int32} {b : Nat} (hM : RwC l D cI cJ cZ cS y bytes maxL ret fr lo W0 H.size (.ref b :: As) (some (.int v)) W1) (hF : CalF y bytes maxL ret n) {ci : Nat} {q : vw_C} {fs : List Value} (hq : vwCl[ci]? = some q) (hr0 : W0[0]? = some (b, .inr (ci, fs))) (h1 : Cond.methodLink own index y ∈ gw) (h2 : Cond.instanceMethod y ∈ gw) (h3 : Cond.selects q.1 y y ∈ gw) (hP : va_P D vwCl (W0 ++ Y) H) (hD : va_D A (W0 ++ Y)) (hS : va_S A H0 H locs) (hA : ∀ q, H0.size ≤ q → A q) (hR : fr + 1 ≤ R.frames ∧ 8 + (maxL + 11) + lo ≤ R.locals) (hn : As.length = n) (hls : ls.size = nL) (hrest : (rest.map fun v => v.category).sum ≤ 8) (hcs : cells ≤ R.cells ∧ slots ≤ R.slots) (hst : st0 = As.reverse ++ .ref b :: rest) (hdg : decode cc pc = .ok (.invokevirtual index, 3))
    (kk : ∀ (H1 : Heap) (locs1 : List Loc), va_P D vwCl (W1 ++ Y) H1 → va_D A (W1 ++ Y) → va_S A H0 H1 locs1 → W p l e R s m args below meth c H1 locs1 cells slots Q (F0 m (pc + 3) ls (.int v :: rest))) : W p l e R s m args below meth c H locs cells slots Q (F0 m pc ls st0) :=
  rw_goA (run_V E hM hF h1 h2 h3 ⟨RwP.blind, va_recv E.2.2.2.2.2.1 hP.left hq hr0, RwP.pre E.2.2.2.2.2 hP.left hD.left⟩ rfl rfl hR hn hls hrest hcs hst hdg) rfl hP hD hS hA kk
theorem ctA {cI cJ cZ cS : ClassId} {nL : Nat} {own : String} (E : Ev p s m args c cc nL own D cI cJ cZ cS) {y : MethodName} {bytes : ByteArray} {maxL n index fr lo mc ms : Nat} {ret : Option FieldType} {W0 Y : va_W} {Wf : va_W → Prop} {As st0 : List Value} {v : Int32} {b : Nat} (hM : CtC l D cI cJ cZ cS y bytes maxL ret fr lo mc ms W0 H.size (.ref b :: As) (some (.int v)) Wf) (hF : CalF y bytes maxL ret n) {ci : Nat} {q : vw_C} {fs : List Value} (hq : vwCl[ci]? = some q) (hr0 : W0[0]? = some (b, .inr (ci, fs))) (h1 : Cond.methodLink own index y ∈ gw) (h2 : Cond.instanceMethod y ∈ gw) (h3 : Cond.selects q.1 y y ∈ gw) (hP : va_P D vwCl (W0 ++ Y) H) (hD : va_D A (W0 ++ Y)) (hS : va_S A H0 H locs) (hA : ∀ q, H0.size ≤ q → A q) (hR : fr + 1 ≤ R.frames ∧ 8 + (maxL + 11) + lo ≤ R.locals) (hn : As.length = n) (hls : ls.size = nL) (hrest : (rest.map fun v => v.category).sum ≤ 8) (hcs : cells + mc ≤ R.cells ∧ slots + ms ≤ R.slots) (hst : st0 = As.reverse ++ .ref b :: rest) (hdg : decode cc pc = .ok (.invokevirtual index, 3))
    (kk : ∀ (w1 : va_W) (H1 : Heap) (locs1 : List Loc), Wf w1 → va_P D vwCl (w1 ++ Y) H1 → va_D A (w1 ++ Y) → va_S A H0 H1 locs1 → W p l e R s m args below meth c H1 locs1 (cells + mc) (slots + ms) Q (F0 m (pc + 3) ls (.int v :: rest))) : W p l e R s m args below meth c H locs cells slots Q (F0 m pc ls st0) :=
  ct_goA (run_V E hM hF h1 h2 h3 ⟨RwP.blind, va_recv E.2.2.2.2.2.1 hP.left hq hr0, RwP.pre E.2.2.2.2.2 hP.left hD.left⟩ rfl rfl hR hn hls hrest hcs hst hdg) rfl hP hD hS hA kk
end LA
