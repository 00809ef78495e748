/-- a method that makes cells: the world behind it is one of a kind -/
def CtQ (D : va_G) (v : Option Value) (Wf : va_W → Prop) (A : Nat → Prop) : Array Value → State → Outcome → State → Prop := fun _ st o t => o = .returned v ∧ ∃ w, Wf w ∧ va_P D vwCl w t.heap ∧ va_D A w ∧ va_F A st t
abbrev ctR (fr lo mc ms : Nat) : Room := { frames := fr, cells := mc, slots := ms, locals := lo }
abbrev CtC (l : Launch) (D : va_G) (cI cJ cZ cS : ClassId) (y : MethodName) (bytes : ByteArray) (maxL : Nat) (ret : Option FieldType) (fr lo mc ms : Nat) (W0 : va_W) (sz : Nat) (av : List Value) (v : Option Value) (Wf : va_W → Prop) : Prop :=
  Met l y (cws y bytes maxL ret) (ctR fr lo mc ms) (RwP D cI cJ cZ cS W0 sz av) (CtQ D v Wf (va_A W0 sz)) mc ms (va_A W0 sz)
theorem ct_in_v {l : Launch} {D : va_G} {cI cJ cZ cS : ClassId} {y : MethodName} {bytes : ByteArray} {maxL : Nat} {fr lo mc ms : Nat} {own : String} {W0 : va_W} {Wf : va_W → Prop} {sz : Nat} {av : List Value} (hy : plainName y.cls = true) (hown : y.cls = own) (hlen : (lg_sl av).length ≤ maxL) (body : ∀ (p : Program) (e : Env) (s : State) (m : MethodId) (args : Array Value) (below : List Frame) (meth : Method) (c : Code) (ls : Array Slot) (Q : State → Prop) (A : Nat → Prop), Ev p s m args c bytes maxL own D cI cJ cZ cS → (∀ q, s.heap.size ≤ q → A q) → meth.name = y.name → (∀ (H : Heap) (locs : List Loc) (pc : Nat) (ls : Array Slot) (w : va_W), decode bytes pc = .ok (.return_, 1) → Wf w → va_P D vwCl w H → va_D A w → va_S A s.heap H locs → W p l e (ctR fr lo mc ms) s m args below meth c H locs mc ms Q (F0 m pc ls [])) → va_P D vwCl W0 s.heap → va_D A W0 → va_S A s.heap s.heap [] → lv_has ls maxL (lv_args 0 av) → W p l e (ctR fr lo mc ms) s m args below meth c s.heap [] 0 0 Q (F0 m 0 ls [])) : CtC l D cI cJ cZ cS y bytes maxL none fr lo mc ms W0 sz av none Wf := by
  subst hown
  refine Met.ofW (cc := bytes) (maxL := maxL) (ret := none) hy rfl ?_
  intro p e s m args below meth c s₁ B hml hv
  obtain ⟨rfl, rfl, hG, hP, hD0⟩ := hv
  have hts := atoms_spec (ws := cws y bytes maxL none) B.pre
  have hD := hD0.self (sz := s.heap.size)
  generalize hAe : va_A W0 s.heap.size = A at hD ⊢
  have hA : ∀ q : Nat, s.heap.size ≤ q → A q := fun q h => by rw [← hAe]; exact Or.inr h
  have hl := lv_entry av (n := maxL) hlen
  rw [lg_entry_eq]
  generalize (lg_sl av ++ List.replicate (maxL - (lg_sl av).length) Slot.unset).toArray = ls at hl ⊢
  exact body p e s m _ below meth c ls _ A ⟨B.exec, B.bytes, hml, findClass_of_methodNamed B.named, fun w h => hts w (List.mem_cons_of_mem _ h), hG⟩ hA (name_of_methodNamed B.named B.method).1 (fun H locs pc ls w hd hw a1 a2 a3 => W.vret B.exec B.bytes B.returns (fun t ht _ => ⟨rfl, w, hw, by rw [ht]; exact a1, a2, a3.F ht⟩) a3.2.2 hd B.notSynchronized) hP hD va_S.rf hl
theorem ct_in_i {l : Launch} {D : va_G} {cI cJ cZ cS : ClassId} {y : MethodName} {bytes : ByteArray} {maxL : Nat} {fr lo mc ms : Nat} {own : String} {W0 : va_W} {Wf : va_W → Prop} {sz : Nat} {av : List Value} {v : Int32} (hy : plainName y.cls = true) (hown : y.cls = own) (hlen : (lg_sl av).length ≤ maxL) (body : ∀ (p : Program) (e : Env) (s : State) (m : MethodId) (args : Array Value) (below : List Frame) (meth : Method) (c : Code) (ls : Array Slot) (Q : State → Prop) (A : Nat → Prop), Ev p s m args c bytes maxL own D cI cJ cZ cS → (∀ q, s.heap.size ≤ q → A q) → meth.name = y.name → (∀ (v' : Int32) (H : Heap) (locs : List Loc) (pc : Nat) (ls : Array Slot) (w : va_W), decode bytes pc = .ok (.ireturn, 1) → v' = v → Wf w → va_P D vwCl w H → va_D A w → va_S A s.heap H locs → W p l e (ctR fr lo mc ms) s m args below meth c H locs mc ms Q (F0 m pc ls [.int v'])) → va_P D vwCl W0 s.heap → va_D A W0 → va_S A s.heap s.heap [] → lv_has ls maxL (lv_args 0 av) → W p l e (ctR fr lo mc ms) s m args below meth c s.heap [] 0 0 Q (F0 m 0 ls [])) : CtC l D cI cJ cZ cS y bytes maxL (some .int) fr lo mc ms W0 sz av (some (.int v)) Wf := by
  subst hown
  refine Met.ofW (cc := bytes) (maxL := maxL) (ret := (some .int)) hy rfl ?_
  intro p e s m args below meth c s₁ B hml hv
  obtain ⟨rfl, rfl, hG, hP, hD0⟩ := hv
  have hts := atoms_spec (ws := cws y bytes maxL (some .int)) B.pre
  have hD := hD0.self (sz := s.heap.size)
  generalize hAe : va_A W0 s.heap.size = A at hD ⊢
  have hA : ∀ q : Nat, s.heap.size ≤ q → A q := fun q h => by rw [← hAe]; exact Or.inr h
  have hl := lv_entry av (n := maxL) hlen
  rw [lg_entry_eq]
  generalize (lg_sl av ++ List.replicate (maxL - (lg_sl av).length) Slot.unset).toArray = ls at hl ⊢
  exact body p e s m _ below meth c ls _ A ⟨B.exec, B.bytes, hml, findClass_of_methodNamed B.named, fun w h => hts w (List.mem_cons_of_mem _ h), hG⟩ hA (name_of_methodNamed B.named B.method).1 (fun v' H locs pc ls w hd hv hw a1 a2 a3 => by
    subst hv
    exact W.iret B.exec B.bytes B.returns (fun t ht _ => ⟨rfl, w, hw, by rw [ht]; exact a1, a2, a3.F ht⟩) a3.2.2 hd B.notSynchronized) hP hD va_S.rf hl
section CT
variable {p : Program} {l : Launch} {e : Env} {R : Room} {s : State} {m : MethodId} {args : Array Value} {below : List Frame} {meth : Method} {c : Code} {H H0 : Heap} {locs : List Loc} {cells slots : Nat} {Q : State → Prop} {cc : ByteArray} {pc : Nat} {ls : Array Slot} {rest : List Value} {a : Nat} {D : va_G} {cl : List vw_C} {ws : va_W} {tys : List (ClassId × FieldType)} {A : Nat → Prop}
theorem r_newI (hx : p.tables.exec = Jvm.exec) (hb : c.code = cc) (harr : (Cond.arrayClass .int).before args s = true) (hK : va_K D cl tys s) (t0 : Nat) {cA0 : ClassId} (ht : tys[t0]? = some (cA0, .int)) (hP : va_P D cl ws H) (hD : va_D A ws) (hS : va_S A H0 H locs) (hA : ∀ q, H0.size ≤ q → A q) {n : Int32} {N' : Nat} (hn : ¬ n < 0) (hN : n.toNatClampNeg = N') (hbytes : N' * componentBytes .int ≤ 536870912) (hcells : cells + 1 ≤ R.cells) (hslots : slots + N' ≤ R.slots) (hdg : decode cc pc = .ok (.newarray .int, 2))
    (kk : ∀ (q : Nat) (H1 : Heap), va_P D cl (ws ++ [(q, .inl (cA0, N', .inl (fun _ => (0 : Int32))))]) H1 → va_D A (ws ++ [(q, .inl (cA0, N', .inl (fun _ => (0 : Int32))))]) → va_S A H0 H1 locs → W p l e R s m args below meth c H1 locs (cells + 1) (slots + N') Q (F0 m (pc + 2) ls (.ref q :: rest))) : W p l e R s m args below meth c H locs cells slots Q (F0 m pc ls (.int n :: rest)) := by
  refine va_newa (atype := .int) (ty := .int) (a0 := (N', .inl (fun _ => (0 : Int32)))) hx hb harr rfl hK hP hD hS hA (fun _ => rfl) hn hN hbytes hcells hslots hdg (fun q cA H1 hK1 hP1 hD1 hS1 => ?_)
  have h1 : va_RA s cA .int := (hK1.2 tys.length (cA, .int) (by simp)).2
  have h2 : va_RA s cA0 .int := (hK.2 t0 _ ht).2
  have e1 : cA = cA0 := Option.some.inj (Eq.trans (Eq.symm h1) h2)
  subst e1
  exact kk q H1 hP1 hD1 hS1
theorem r_newJ (hx : p.tables.exec = Jvm.exec) (hb : c.code = cc) (harr : (Cond.arrayClass .long).before args s = true) (hK : va_K D cl tys s) (t0 : Nat) {cA0 : ClassId} (ht : tys[t0]? = some (cA0, .long)) (hP : va_P D cl ws H) (hD : va_D A ws) (hS : va_S A H0 H locs) (hA : ∀ q, H0.size ≤ q → A q) {n : Int32} {N' : Nat} (hn : ¬ n < 0) (hN : n.toNatClampNeg = N') (hbytes : N' * componentBytes .long ≤ 536870912) (hcells : cells + 1 ≤ R.cells) (hslots : slots + N' ≤ R.slots) (hdg : decode cc pc = .ok (.newarray .long, 2))
    (kk : ∀ (q : Nat) (H1 : Heap), va_P D cl (ws ++ [(q, .inl (cA0, N', .inr (.inl (fun _ => (0 : Int64)))))]) H1 → va_D A (ws ++ [(q, .inl (cA0, N', .inr (.inl (fun _ => (0 : Int64)))))]) → va_S A H0 H1 locs → W p l e R s m args below meth c H1 locs (cells + 1) (slots + N') Q (F0 m (pc + 2) ls (.ref q :: rest))) : W p l e R s m args below meth c H locs cells slots Q (F0 m pc ls (.int n :: rest)) := by
  refine va_newa (atype := .long) (ty := .long) (a0 := (N', .inr (.inl (fun _ => (0 : Int64))))) hx hb harr rfl hK hP hD hS hA (fun _ => rfl) hn hN hbytes hcells hslots hdg (fun q cA H1 hK1 hP1 hD1 hS1 => ?_)
  have h1 : va_RA s cA .long := (hK1.2 tys.length (cA, .long) (by simp)).2
  have h2 : va_RA s cA0 .long := (hK.2 t0 _ ht).2
  have e1 : cA = cA0 := Option.some.inj (Eq.trans (Eq.symm h1) h2)
  subst e1
  exact kk q H1 hP1 hD1 hS1
theorem r_newZ (hx : p.tables.exec = Jvm.exec) (hb : c.code = cc) (harr : (Cond.arrayClass .boolean).before args s = true) (hK : va_K D cl tys s) (t0 : Nat) {cA0 : ClassId} (ht : tys[t0]? = some (cA0, .boolean)) (hP : va_P D cl ws H) (hD : va_D A ws) (hS : va_S A H0 H locs) (hA : ∀ q, H0.size ≤ q → A q) {n : Int32} {N' : Nat} (hn : ¬ n < 0) (hN : n.toNatClampNeg = N') (hbytes : N' * componentBytes .boolean ≤ 536870912) (hcells : cells + 1 ≤ R.cells) (hslots : slots + N' ≤ R.slots) (hdg : decode cc pc = .ok (.newarray .boolean, 2))
    (kk : ∀ (q : Nat) (H1 : Heap), va_P D cl (ws ++ [(q, .inl (cA0, N', .inl (fun _ => (0 : Int32))))]) H1 → va_D A (ws ++ [(q, .inl (cA0, N', .inl (fun _ => (0 : Int32))))]) → va_S A H0 H1 locs → W p l e R s m args below meth c H1 locs (cells + 1) (slots + N') Q (F0 m (pc + 2) ls (.ref q :: rest))) : W p l e R s m args below meth c H locs cells slots Q (F0 m pc ls (.int n :: rest)) := by
  refine va_newa (atype := .boolean) (ty := .boolean) (a0 := (N', .inl (fun _ => (0 : Int32)))) hx hb harr rfl hK hP hD hS hA (fun _ => rfl) hn hN hbytes hcells hslots hdg (fun q cA H1 hK1 hP1 hD1 hS1 => ?_)
  have h1 : va_RA s cA .boolean := (hK1.2 tys.length (cA, .boolean) (by simp)).2
  have h2 : va_RA s cA0 .boolean := (hK.2 t0 _ ht).2
  have e1 : cA = cA0 := Option.some.inj (Eq.trans (Eq.symm h1) h2)
  subst e1
  exact kk q H1 hP1 hD1 hS1
theorem r_newq (hx : p.tables.exec = Jvm.exec) (hb : c.code = cc) {own C : String} {index : Nat} (hown : s.vm.findClass own = some m.cls) (hclink : (Cond.classLink own index C).before args s = true) (hover : va_AO C s) (hK : va_K D cl tys s) (t0 : Nat) {cA0 : ClassId} (ht : tys[t0]? = some (cA0, .object C)) (hP : va_P D cl ws H) (hD : va_D A ws) (hS : va_S A H0 H locs) (hA : ∀ q, H0.size ≤ q → A q) {n : Int32} {N' : Nat} (hn : ¬ n < 0) (hN : n.toNatClampNeg = N') (hbytes : N' * 4 ≤ 536870912) (hcells : cells + 1 ≤ R.cells) (hslots : slots + N' ≤ R.slots) (hdg : decode cc pc = .ok (.anewarray index, 3))
    (kk : ∀ (q : Nat) (H1 : Heap), va_P D cl (ws ++ [(q, .inl (cA0, N', .inr (.inr (.inr (.inr (fun _ => none))))))]) H1 → va_D A (ws ++ [(q, .inl (cA0, N', .inr (.inr (.inr (.inr (fun _ => none))))))]) → va_S A H0 H1 locs → W p l e R s m args below meth c H1 locs (cells + 1) (slots + N') Q (F0 m (pc + 3) ls (.ref q :: rest))) : W p l e R s m args below meth c H locs cells slots Q (F0 m pc ls (.int n :: rest)) := by
  refine va_newq hx hb hown hclink hover hK hP hD hS hA hn hN hbytes hcells hslots hdg (fun q cA H1 hK1 hP1 hD1 hS1 => ?_)
  have h1 : va_RA s cA (.object C) := (hK1.2 tys.length (cA, .object C) (by simp)).2
  have h2 : va_RA s cA0 (.object C) := (hK.2 t0 _ ht).2
  obtain ⟨_, _, _, _, _, g1⟩ := h1
  obtain ⟨_, _, _, _, _, g2⟩ := h2
  have e1 : cA = cA0 := Option.some.inj (Eq.trans (Eq.symm g1) g2)
  subst e1
  exact kk q H1 hP1 hD1 hS1
theorem ct_go {v : Option Value} {st0 st1 : List Value} {av : Array Value} {W0 wr : va_W} {Wf : va_W → Prop} {mc ms : Nat} (hr : va_Run p l e R s m args below meth c H locs cells slots mc ms (F0 m pc ls st0) rest (CtQ D v Wf (va_A W0 H.size) av) (va_A W0 H.size)) (h1 : v.toList ++ rest = st1) (hP : va_P D vwCl ws H) (hD : va_D A ws) (hS : va_S A H0 H locs) (hA : ∀ q, H0.size ≤ q → A q) (isC isR : List Nat) (hC : isC.map (fun i => ws[i]?) = W0.map some) (hR : isR.map (fun i => ws[i]?) = wr.map some) (hn : va_nd isR = true) (hdis : ∀ i ∈ isR, i ∉ isC)
    (kk : ∀ (w1 : va_W) (H1 : Heap) (locs1 : List Loc), Wf w1 → va_P D vwCl (wr ++ w1) H1 → va_D A (wr ++ w1) → va_S A H0 H1 locs1 → W p l e R s m args below meth c H1 locs1 (cells + mc) (slots + ms) Q (F0 m (pc + 3) ls st1)) : W p l e R s m args below meth c H locs cells slots Q (F0 m pc ls st0) := by
  have hFc := va_free (wc := W0) hD hS hA isC hC
  intro T hT X
  obtain ⟨v', st₀, t, T', L, h0, X', hL, e1, e2, ⟨hv, w1, hw1, hP1, hD1, hz, hk⟩, st⟩ := hr T hT X
  cases hv
  subst h1
  rw [h0] at hz hk
  rw [← e1] at hP1 hz hk
  obtain ⟨hP2, hD2⟩ := va_join (wr := wr) (w1 := w1) hP hD isC isR hC hR hn hdis hk hFc hP1 hD1
  have hS2 : va_S A H0 T'.heap (locs ++ L) := ⟨Nat.le_trans hS.1 hz, fun q h1 h2 => by rw [hk q (Nat.lt_of_lt_of_le h1 hS.1) (fun z => h2 (hFc q z))]; exact hS.2.1 q h1 h2, fun q hq => by
    rcases List.mem_append.mp hq with h | h
    · exact hS.2.2 q h
    · exact hFc _ (hL q h)⟩
  obtain ⟨t2, a1, b1⟩ := kk w1 T'.heap (locs ++ L) hw1 hP2 hD2 hS2 T' rfl X'
  exact ⟨t2, st t2 a1, b1⟩
theorem ct_I {cI cJ cZ cS : ClassId} {nL : Nat} {own : String} (E : Ev p s m args c cc nL own D cI cJ cZ cS) {y : MethodName} {bytes : ByteArray} {maxL index fr lo mc ms : Nat} {W0 wr : va_W} {Wf : va_W → Prop} {st0 : List Value} {b : Nat} (hM : CtC l D cI cJ cZ cS y bytes maxL none fr lo mc ms W0 H.size [.ref b] none Wf) (hF : CalF y bytes maxL none 0) (h1 : Cond.methodLink own index y ∈ gw) (h2 : Cond.instanceMethod y ∈ gw) (hy : y.name = "<init>") (hP : va_P D vwCl ws H) (hD : va_D A ws) (hS : va_S A H0 H locs) (hA : ∀ q, H0.size ≤ q → A q) (isC isR : List Nat) (hC : isC.map (fun i => ws[i]?) = W0.map some) (hRr : isR.map (fun i => ws[i]?) = wr.map some) (hnd : va_nd isC = true) (hnr : va_nd isR = true) (hdis : ∀ i ∈ isR, i ∉ isC) (hR : fr + 1 ≤ R.frames ∧ 8 + (maxL + 11) + lo ≤ R.locals) (hls : ls.size = nL) (hrest : (rest.map fun v => v.category).sum ≤ 8) (hcs : cells + mc ≤ R.cells ∧ slots + ms ≤ R.slots) (hst : st0 = .ref b :: rest) (hdg : decode cc pc = .ok (.invokespecial index, 3))
    (kk : ∀ (w1 : va_W) (H1 : Heap) (locs1 : List Loc), Wf w1 → va_P D vwCl (wr ++ w1) H1 → va_D A (wr ++ w1) → va_S A H0 H1 locs1 → W p l e R s m args below meth c H1 locs1 (cells + mc) (slots + ms) Q (F0 m (pc + 3) ls rest)) : W p l e R s m args below meth c H locs cells slots Q (F0 m pc ls st0) :=
  ct_go (run_I (As := []) (b := b) E hM hF rfl h1 h2 hy ⟨RwP.blind, RwP.pre E.2.2.2.2.2 (hP.subm isC hC) (hD.sub isC hnd hC)⟩ rfl rfl hR rfl hls hrest hcs hst hdg) rfl hP hD hS hA isC isR hC hRr hnr hdis kk
theorem ct_IN {cI cJ cZ cS : ClassId} {nL : Nat} {own : String} (E : Ev p s m args c cc nL own D cI cJ cZ cS) {y : MethodName} {bytes : ByteArray} {maxL index fr lo mc ms : Nat} {W0 wr : va_W} {Wf : va_W → Prop} {st0 : List Value} {b : Nat} (hM : CtC l D cI cJ cZ cS y bytes maxL none fr lo mc ms W0 H.size [.ref b] none Wf) (hF : CalF y bytes maxL none 0) {host : String} (h1 : Cond.methodLinkNest own index y host ∈ nestW) (h2 : Cond.instanceMethod y ∈ gw) (hy : y.name = "<init>") (hP : va_P D vwCl ws H) (hD : va_D A ws) (hS : va_S A H0 H locs) (hA : ∀ q, H0.size ≤ q → A q) (isC isR : List Nat) (hC : isC.map (fun i => ws[i]?) = W0.map some) (hRr : isR.map (fun i => ws[i]?) = wr.map some) (hnd : va_nd isC = true) (hnr : va_nd isR = true) (hdis : ∀ i ∈ isR, i ∉ isC) (hR : fr + 1 ≤ R.frames ∧ 8 + (maxL + 11) + lo ≤ R.locals) (hls : ls.size = nL) (hrest : (rest.map fun v => v.category).sum ≤ 8) (hcs : cells + mc ≤ R.cells ∧ slots + ms ≤ R.slots) (hst : st0 = .ref b :: rest) (hdg : decode cc pc = .ok (.invokespecial index, 3))
    (kk : ∀ (w1 : va_W) (H1 : Heap) (locs1 : List Loc), Wf w1 → va_P D vwCl (wr ++ w1) H1 → va_D A (wr ++ w1) → va_S A H0 H1 locs1 → W p l e R s m args below meth c H1 locs1 (cells + mc) (slots + ms) Q (F0 m (pc + 3) ls rest)) : W p l e R s m args below meth c H locs cells slots Q (F0 m pc ls st0) :=
  ct_go (run_IN (As := []) (b := b) E hM hF rfl h1 h2 hy ⟨RwP.blind, RwP.pre E.2.2.2.2.2 (hP.subm isC hC) (hD.sub isC hnd hC)⟩ rfl rfl hR rfl hls hrest hcs hst hdg) rfl hP hD hS hA isC isR hC hRr hnr hdis kk
theorem r_aals {ρ : Type} {r : ρ} (hx : p.tables.exec = Jvm.exec) (hb : c.code = cc) (hK : va_K D cl tys s) (hP : va_P D cl ws H) (q0 t0 : Nat) {cA : ClassId} {C : String} {n : Nat} {f : Nat → Option Nat} (ha : ws[q0]? = some (a, .inl (cA, n, .inr (.inr (.inr (.inr f)))))) (ht : tys[t0]? = some (cA, .object C)) {i : Int32} {v : Nat} (hk : f i.toNatClampNeg = some v) {F : Option Nat → Option ρ} (hf : bd (ld f n i) F = some r) (hdg : decode cc pc = .ok (.aaload, 1)) (kk : F (some v) = some r → W p l e R s m args below meth c H locs cells slots Q (F0 m (pc + 1) ls (.ref v :: rest))) : W p l e R s m args below meth c H locs cells slots Q (F0 m pc ls (.int i :: .ref a :: rest)) := by
  obtain ⟨w, h1, h2⟩ := bd_e hf
  obtain ⟨h3, rfl⟩ := ld_e h1
  refine va_aldq hx hb hK hP q0 t0 ha ht h3 hdg ?_
  rw [hk] at h2 ⊢
  exact kk h2
theorem r_aaln {ρ : Type} {r : ρ} (hx : p.tables.exec = Jvm.exec) (hb : c.code = cc) (hK : va_K D cl tys s) (hP : va_P D cl ws H) (q0 t0 : Nat) {cA : ClassId} {C : String} {n : Nat} {f : Nat → Option Nat} (ha : ws[q0]? = some (a, .inl (cA, n, .inr (.inr (.inr (.inr f)))))) (ht : tys[t0]? = some (cA, .object C)) {i : Int32} (hk : f i.toNatClampNeg = none) {F : Option Nat → Option ρ} (hf : bd (ld f n i) F = some r) (hdg : decode cc pc = .ok (.aaload, 1)) (kk : F none = some r → W p l e R s m args below meth c H locs cells slots Q (F0 m (pc + 1) ls (.null :: rest))) : W p l e R s m args below meth c H locs cells slots Q (F0 m pc ls (.int i :: .ref a :: rest)) := by
  obtain ⟨w, h1, h2⟩ := bd_e hf
  obtain ⟨h3, rfl⟩ := ld_e h1
  refine va_aldq hx hb hK hP q0 t0 ha ht h3 hdg ?_
  rw [hk] at h2 ⊢
  exact kk h2
end CT
