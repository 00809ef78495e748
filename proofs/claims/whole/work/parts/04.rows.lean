/-! pure words: an answer or nothing -/
def bd {α β : Type} (x : Option α) (f : α → Option β) : Option β := match x with
  | none => none
  | some a => f a
theorem bd_some {α β : Type} {a : α} {f : α → Option β} : bd (some a) f = f a := rfl
theorem bd_none {α β : Type} {f : α → Option β} : bd none f = none := rfl
theorem bd_e {α β : Type} {x : Option α} {f : α → Option β} {r : β} (h : bd x f = some r) : ∃ a, x = some a ∧ f a = some r := by
  cases x with
  | none => cases h
  | some a => exact ⟨a, rfl, h⟩
def lc {α β : Type} (x : α) (f : α → β) : β := f x
theorem lc_e {α β : Type} {x : α} {f : α → β} {r : β} (h : lc x f = r) : ∃ k, k = x ∧ f k = r := ⟨x, rfl, h⟩
def inB (i : Int32) (n : Nat) : Bool := decide (¬ (i < 0 ∨ n ≤ i.toNatClampNeg))
theorem inB_in {i : Int32} {n : Nat} (h : inB i n = true) : vp_in i n := of_decide_eq_true h
theorem inB_of {i : Int32} {n : Nat} (h : vp_in i n) : inB i n = true := decide_eq_true h
def ld {α : Type} (f : Nat → α) (n : Nat) (i : Int32) : Option α := if inB i n = true then some (f i.toNatClampNeg) else none
theorem ld_e {α : Type} {f : Nat → α} {n : Nat} {i : Int32} {v : α} (h : ld f n i = some v) : vp_in i n ∧ f i.toNatClampNeg = v := by
  unfold ld at h
  split at h
  · rename_i hc
    exact ⟨inB_in hc, Option.some.inj h⟩
  · cases h
def sti (f : Nat → Int32) (n : Nat) (i x : Int32) : Option (Nat → Int32) := if inB i n = true then some (upd f i.toNatClampNeg x) else none
theorem sti_e {f g : Nat → Int32} {n : Nat} {i x : Int32} (h : sti f n i x = some g) : vp_in i n ∧ upd f i.toNatClampNeg x = g := by
  unfold sti at h
  split at h
  · rename_i hc
    exact ⟨inB_in hc, Option.some.inj h⟩
  · cases h
def stl (f : Nat → Int64) (n : Nat) (i : Int32) (x : Int64) : Option (Nat → Int64) := if inB i n = true then some (vp_updL f i.toNatClampNeg x) else none
theorem stl_e {f g : Nat → Int64} {n : Nat} {i : Int32} {x : Int64} (h : stl f n i x = some g) : vp_in i n ∧ vp_updL f i.toNatClampNeg x = g := by
  unfold stl at h
  split at h
  · rename_i hc
    exact ⟨inB_in hc, Option.some.inj h⟩
  · cases h
def idv (x y : Int32) : Option Int32 := if y = 0 then none else some (x / y)
def irm (x y : Int32) : Option Int32 := if y = 0 then none else some (x - x / y * y)
def ldv (x y : Int64) : Option Int64 := if y = 0 then none else some (x / y)
def lrm (x y : Int64) : Option Int64 := if y = 0 then none else some (x - x / y * y)
theorem nz_e {α β : Type} {y : α} {z : α} {d : Decidable (y = z)} {v r : β} (h : (@ite _ (y = z) d none (some v)) = some r) : ¬ y = z ∧ v = r := by
  split at h
  · cases h
  · rename_i hc
    exact ⟨hc, Option.some.inj h⟩
def bz (v : Int32) : Option Int32 := if v = 0 ∨ v = 1 then some v else none
theorem bz_e {v r : Int32} (h : bz v = some r) : v = r ∧ narrow .boolean (.int v) = .int v := by
  unfold bz at h
  split at h
  · rename_i hc
    refine ⟨Option.some.inj h, ?_⟩
    rcases hc with rfl | rfl <;> rfl
  · cases h
def imin (x y : Int32) : Int32 := if y < x then y else x
def imax (x y : Int32) : Int32 := if x < y then y else x
def iabs (x : Int32) : Int32 := if x < 0 then -x else x
/-! what every method is given of the machine -/
abbrev tyL (cI cJ cZ cS : ClassId) : List (ClassId × FieldType) := [(cI, .int), (cJ, .long), (cZ, .boolean), (cS, .object "OpenEyes$Scene")]
def NWs (U : State) : Prop := (∀ w ∈ nestW, va_Nw w U) ∧ va_AO "OpenEyes$Scene" U
theorem nest_shape : ∀ w ∈ nestW, (∃ a i b n d h, w = .fieldLinkNest a i b n d h) ∨ ∃ a i x h, w = .methodLinkNest a i x h := by
  intro w hw
  simp only [nestW, List.mem_cons, List.not_mem_nil, or_false] at hw
  rcases hw with rfl | rfl | rfl | rfl | rfl | rfl | rfl | rfl | rfl | rfl | rfl | rfl | rfl | rfl | rfl | rfl | rfl | rfl | rfl | rfl | rfl | rfl | rfl | rfl <;> first | exact Or.inl ⟨_, _, _, _, _, _, rfl⟩ | exact Or.inr ⟨_, _, _, _, rfl⟩
theorem NWs.warm {s U : State} (hW : s.WarmedH U.vm) (h : NWs s) : NWs U := ⟨fun w hw => by
  rcases nest_shape w hw with ⟨a, i, b, n, d, hh, rfl⟩ | ⟨a, i, x, hh, rfl⟩
  · exact va_Nw.warmF hW (h.1 _ hw)
  · exact va_Nw.warmM hW (h.1 _ hw), va_AO.moved hW.alike h.2⟩
theorem NWs.same {s U : State} (e : s.vm = U.vm) (h : NWs s) : NWs U := ⟨fun w hw => va_Nw.same (by
  rcases nest_shape w hw with ⟨a, i, b, n, d, hh, rfl⟩ | ⟨a, i, x, hh, rfl⟩ <;> rfl) e (h.1 _ hw), va_AO.moved (e ▸ Vm.Alike.refl s.vm) h.2⟩
def GK (D : va_G) (cI cJ cZ cS : ClassId) (U : State) : Prop := va_K D vwCl (tyL cI cJ cZ cS) U ∧ NWs U
theorem GK.blind {D : va_G} {cI cJ cZ cS : ClassId} {U : State} (h : GK D cI cJ cZ cS U) (g : JFrame) (mk : MethodId) (a : Array Value) : GK D cI cJ cZ cS (U.calling g mk a) := ⟨va_K.moved (u := U) (U := U.calling g mk a) (Vm.Alike.refl U.vm) h.1, h.2.same rfl⟩
theorem GK.warm {D : va_G} {cI cJ cZ cS : ClassId} {s U : State} (hW : s.WarmedH U.vm) (h : GK D cI cJ cZ cS s) : GK D cI cJ cZ cS U := ⟨va_K.moved hW.alike h.1, h.2.warm hW⟩
abbrev cws (y : MethodName) (bytes : ByteArray) (maxL : Nat) (ret : Option FieldType) : List Cond := .code y bytes maxL ret :: gw
theorem cws_good {y y' : MethodName} {b b' : ByteArray} {n n' : Nat} {r r' : Option FieldType} (h : Cond.code y b n r ∈ gw) : GoodIn (cws y' b' n' r') (cws y b n r) := fun w hw => by
  rcases List.mem_cons.mp hw with rfl | h1
  · exact ⟨List.mem_cons_of_mem _ h, gw_good h⟩
  · exact ⟨List.mem_cons_of_mem _ h1, gw_good h1⟩
/-- what is known of a method that is called -/
def CalF (y : MethodName) (bytes : ByteArray) (maxL : Nat) (ret : Option FieldType) (n : Nat) : Prop := Cond.code y bytes maxL ret ∈ gw ∧ Cond.initialized y.cls ∈ gw ∧ (y.cls ≠ "java/lang/invoke/MethodHandle" ∧ y.cls ≠ "java/lang/invoke/VarHandle" ∧ (parseMethodDescriptor y.desc).map (fun d => d.parameters.length) = some n)
/-- a method that leaves the heap as it is -/
def RoQ (v : Option Value) : Array Value → State → Outcome → State → Prop := fun _ st o t => o = .returned v ∧ t.heap = st.heap
abbrev roR (fr lo : Nat) : Room := { frames := fr, cells := 0, slots := 0, locals := lo }
def RoP (D : va_G) (cI cJ cZ cS : ClassId) (W : va_W) (av : List Value) : Array Value → State → Prop := va_Pc av (fun U => GK D cI cJ cZ cS U ∧ va_P D vwCl W U.heap)
abbrev RoC (l : Launch) (D : va_G) (cI cJ cZ cS : ClassId) (y : MethodName) (bytes : ByteArray) (maxL : Nat) (ret : Option FieldType) (fr lo : Nat) (W : va_W) (av : List Value) (v : Option Value) : Prop :=
  Met l y (cws y bytes maxL ret) (roR fr lo) (RoP D cI cJ cZ cS W av) (RoQ v) 0 0 (fun _ => False)
theorem RoP.blind {D : va_G} {cI cJ cZ cS : ClassId} {W : va_W} {av : List Value} : FrameBlind (RoP D cI cJ cZ cS W av) := fun _ _ _ _ h => ⟨h.1, h.2.1.blind _ _ _, h.2.2⟩
/-- a method that writes: its world before and behind -/
def RwQ (D : va_G) (v : Option Value) (W' : va_W) (A : Nat → Prop) : Array Value → State → Outcome → State → Prop := fun _ st o t => o = .returned v ∧ va_P D vwCl W' t.heap ∧ va_D A W' ∧ va_F A st t
def RwP (D : va_G) (cI cJ cZ cS : ClassId) (W : va_W) (sz : Nat) (av : List Value) : Array Value → State → Prop := va_Pc av (fun U => U.heap.size = sz ∧ GK D cI cJ cZ cS U ∧ va_P D vwCl W U.heap ∧ va_D (fun _ => True) W)
abbrev RwC (l : Launch) (D : va_G) (cI cJ cZ cS : ClassId) (y : MethodName) (bytes : ByteArray) (maxL : Nat) (ret : Option FieldType) (fr lo : Nat) (W : va_W) (sz : Nat) (av : List Value) (v : Option Value) (W' : va_W) : Prop :=
  Met l y (cws y bytes maxL ret) (roR fr lo) (RwP D cI cJ cZ cS W sz av) (RwQ D v W' (va_A W sz)) 0 0 (va_A W sz)
theorem RwP.blind {D : va_G} {cI cJ cZ cS : ClassId} {W : va_W} {sz : Nat} {av : List Value} : FrameBlind (RwP D cI cJ cZ cS W sz av) := fun _ _ _ _ h => ⟨h.1, h.2.1, h.2.2.1.blind _ _ _, h.2.2.2⟩
/-- the machine inside a method -/
def Ev (p : Program) (s : State) (m : MethodId) (args : Array Value) (c : Code) (cc : ByteArray) (nL : Nat) (own : String) (Ts : List Cond) (D : va_G) (cI cJ cZ cS : ClassId) : Prop :=
  p.tables.exec = Jvm.exec ∧ c.code = cc ∧ c.maxLocals = nL ∧ s.vm.findClass own = some m.cls ∧ (∀ w ∈ Ts, w.before args s = true) ∧ GK D cI cJ cZ cS s
section RW
variable {p : Program} {l : Launch} {e : Env} {R : Room} {s : State} {m : MethodId} {args : Array Value} {below : List Frame} {meth : Method} {c : Code} {H H0 : Heap} {locs : List Loc} {cells slots : Nat} {Q : State → Prop} {cc : ByteArray} {pc : Nat} {ls : Array Slot} {rest : List Value} {a : Nat} {D : va_G} {cl : List vw_C} {ws : va_W} {tys : List (ClassId × FieldType)} {A : Nat → Prop} {ρ : Type} {r : ρ}
theorem r_iald (hx : p.tables.exec = Jvm.exec) (hb : c.code = cc) (hK : va_K D cl tys s) (hP : va_P D cl ws H) (q0 t0 : Nat) {cA : ClassId} {n : Nat} {f : Nat → Int32} (ha : ws[q0]? = some (a, .inl (cA, n, .inl f))) (ht : tys[t0]? = some (cA, .int)) {i : Int32} {F : Int32 → Option ρ} (hf : bd (ld f n i) F = some r) (hdg : decode cc pc = .ok (.iaload, 1))
    (kk : ∀ v, F v = some r → W p l e R s m args below meth c H locs cells slots Q (F0 m (pc + 1) ls (.int v :: rest))) : W p l e R s m args below meth c H locs cells slots Q (F0 m pc ls (.int i :: .ref a :: rest)) := by
  obtain ⟨v, h1, h2⟩ := bd_e hf
  obtain ⟨h3, rfl⟩ := ld_e h1
  exact va_iald hx hb hK hP q0 t0 ha ht h3 hdg (kk _ h2)
theorem r_zald (hx : p.tables.exec = Jvm.exec) (hb : c.code = cc) (hK : va_K D cl tys s) (hP : va_P D cl ws H) (q0 t0 : Nat) {cA : ClassId} {n : Nat} {f : Nat → Int32} (ha : ws[q0]? = some (a, .inl (cA, n, .inl f))) (ht : tys[t0]? = some (cA, .boolean)) {i : Int32} {F : Int32 → Option ρ} (hf : bd (ld f n i) F = some r) (hdg : decode cc pc = .ok (.baload, 1))
    (kk : ∀ v, F v = some r → W p l e R s m args below meth c H locs cells slots Q (F0 m (pc + 1) ls (.int v :: rest))) : W p l e R s m args below meth c H locs cells slots Q (F0 m pc ls (.int i :: .ref a :: rest)) := by
  obtain ⟨v, h1, h2⟩ := bd_e hf
  obtain ⟨h3, rfl⟩ := ld_e h1
  exact va_zald hx hb hK hP q0 t0 ha ht h3 hdg (kk _ h2)
theorem r_lald (hx : p.tables.exec = Jvm.exec) (hb : c.code = cc) (hK : va_K D cl tys s) (hP : va_P D cl ws H) (q0 t0 : Nat) {cA : ClassId} {n : Nat} {f : Nat → Int64} (ha : ws[q0]? = some (a, .inl (cA, n, .inr (.inl f)))) (ht : tys[t0]? = some (cA, .long)) {i : Int32} {F : Int64 → Option ρ} (hf : bd (ld f n i) F = some r) (hdg : decode cc pc = .ok (.laload, 1))
    (kk : ∀ v, F v = some r → W p l e R s m args below meth c H locs cells slots Q (F0 m (pc + 1) ls (.long v :: rest))) : W p l e R s m args below meth c H locs cells slots Q (F0 m pc ls (.int i :: .ref a :: rest)) := by
  obtain ⟨v, h1, h2⟩ := bd_e hf
  obtain ⟨h3, rfl⟩ := ld_e h1
  exact va_lald hx hb hK hP q0 t0 ha ht h3 hdg (kk _ h2)
theorem r_iast (hx : p.tables.exec = Jvm.exec) (hb : c.code = cc) (hK : va_K D cl tys s) (hP : va_P D cl ws H) (hD : va_D A ws) (hS : va_S A H0 H locs) (q0 t0 : Nat) {cA : ClassId} {n : Nat} {f : Nat → Int32} (ha : ws[q0]? = some (a, .inl (cA, n, .inl f))) (ht : tys[t0]? = some (cA, .int)) {i x : Int32} {F : (Nat → Int32) → Option ρ} (hf : bd (sti f n i x) F = some r) (hdg : decode cc pc = .ok (.iastore, 1))
    (kk : ∀ (g : Nat → Int32) (H1 : Heap) (locs1 : List Loc), F g = some r → va_P D cl (ws.set q0 (a, .inl (cA, n, .inl g))) H1 → va_D A (ws.set q0 (a, .inl (cA, n, .inl g))) → va_S A H0 H1 locs1 → W p l e R s m args below meth c H1 locs1 cells slots Q (F0 m (pc + 1) ls rest)) : W p l e R s m args below meth c H locs cells slots Q (F0 m pc ls (.int x :: .int i :: .ref a :: rest)) := by
  obtain ⟨g, h1, h2⟩ := bd_e hf
  obtain ⟨h3, rfl⟩ := sti_e h1
  exact va_iast hx hb hK hP hD hS q0 t0 ha ht h3 hdg (fun H1 l1 a1 a2 a3 => kk _ H1 l1 h2 a1 a2 a3)
theorem r_zast (hx : p.tables.exec = Jvm.exec) (hb : c.code = cc) (hK : va_K D cl tys s) (hP : va_P D cl ws H) (hD : va_D A ws) (hS : va_S A H0 H locs) (q0 t0 : Nat) {cA : ClassId} {n : Nat} {f : Nat → Int32} (ha : ws[q0]? = some (a, .inl (cA, n, .inl f))) (ht : tys[t0]? = some (cA, .boolean)) {i x : Int32} (hnx : vp_nar .boolean x = x) {F : (Nat → Int32) → Option ρ} (hf : bd (sti f n i x) F = some r) (hdg : decode cc pc = .ok (.bastore, 1))
    (kk : ∀ (g : Nat → Int32) (H1 : Heap) (locs1 : List Loc), F g = some r → va_P D cl (ws.set q0 (a, .inl (cA, n, .inl g))) H1 → va_D A (ws.set q0 (a, .inl (cA, n, .inl g))) → va_S A H0 H1 locs1 → W p l e R s m args below meth c H1 locs1 cells slots Q (F0 m (pc + 1) ls rest)) : W p l e R s m args below meth c H locs cells slots Q (F0 m pc ls (.int x :: .int i :: .ref a :: rest)) := by
  obtain ⟨g, h1, h2⟩ := bd_e hf
  obtain ⟨h3, rfl⟩ := sti_e h1
  refine va_zast hx hb hK hP hD hS q0 t0 ha ht h3 hdg (fun H1 l1 a1 a2 a3 => ?_)
  rw [hnx] at a1 a2
  exact kk _ H1 l1 h2 a1 a2 a3
theorem r_last (hx : p.tables.exec = Jvm.exec) (hb : c.code = cc) (hK : va_K D cl tys s) (hP : va_P D cl ws H) (hD : va_D A ws) (hS : va_S A H0 H locs) (q0 t0 : Nat) {cA : ClassId} {n : Nat} {f : Nat → Int64} (ha : ws[q0]? = some (a, .inl (cA, n, .inr (.inl f)))) (ht : tys[t0]? = some (cA, .long)) {i : Int32} {x : Int64} {F : (Nat → Int64) → Option ρ} (hf : bd (stl f n i x) F = some r) (hdg : decode cc pc = .ok (.lastore, 1))
    (kk : ∀ (g : Nat → Int64) (H1 : Heap) (locs1 : List Loc), F g = some r → va_P D cl (ws.set q0 (a, .inl (cA, n, .inr (.inl g)))) H1 → va_D A (ws.set q0 (a, .inl (cA, n, .inr (.inl g)))) → va_S A H0 H1 locs1 → W p l e R s m args below meth c H1 locs1 cells slots Q (F0 m (pc + 1) ls rest)) : W p l e R s m args below meth c H locs cells slots Q (F0 m pc ls (.long x :: .int i :: .ref a :: rest)) := by
  obtain ⟨g, h1, h2⟩ := bd_e hf
  obtain ⟨h3, rfl⟩ := stl_e h1
  exact va_last hx hb hK hP hD hS q0 t0 ha ht h3 hdg (fun H1 l1 a1 a2 a3 => kk _ H1 l1 h2 a1 a2 a3)
theorem r_idiv (hx : p.tables.exec = Jvm.exec) (hb : c.code = cc) {x y : Int32} {F : Int32 → Option ρ} (hf : bd (idv x y) F = some r) (hdg : decode cc pc = .ok (.idiv, 1)) (kk : ∀ v, F v = some r → W p l e R s m args below meth c H locs cells slots Q (F0 m (pc + 1) ls (.int v :: rest))) : W p l e R s m args below meth c H locs cells slots Q (F0 m pc ls (.int y :: .int x :: rest)) := by
  obtain ⟨v, h1, h2⟩ := bd_e hf
  obtain ⟨h3, rfl⟩ := nz_e h1
  exact lv_idiv hx hb hdg h3 (kk _ h2)
theorem r_irem (hx : p.tables.exec = Jvm.exec) (hb : c.code = cc) {x y : Int32} {F : Int32 → Option ρ} (hf : bd (irm x y) F = some r) (hdg : decode cc pc = .ok (.irem, 1)) (kk : ∀ v, F v = some r → W p l e R s m args below meth c H locs cells slots Q (F0 m (pc + 1) ls (.int v :: rest))) : W p l e R s m args below meth c H locs cells slots Q (F0 m pc ls (.int y :: .int x :: rest)) := by
  obtain ⟨v, h1, h2⟩ := bd_e hf
  obtain ⟨h3, rfl⟩ := nz_e h1
  exact lv_irem hx hb hdg h3 (kk _ h2)
theorem r_ldiv (hx : p.tables.exec = Jvm.exec) (hb : c.code = cc) {x y : Int64} {F : Int64 → Option ρ} (hf : bd (ldv x y) F = some r) (hdg : decode cc pc = .ok (.ldiv, 1)) (kk : ∀ v, F v = some r → W p l e R s m args below meth c H locs cells slots Q (F0 m (pc + 1) ls (.long v :: rest))) : W p l e R s m args below meth c H locs cells slots Q (F0 m pc ls (.long y :: .long x :: rest)) := by
  obtain ⟨v, h1, h2⟩ := bd_e hf
  obtain ⟨h3, rfl⟩ := nz_e h1
  exact lv_ldiv hx hb hdg h3 (kk _ h2)
theorem r_lrem (hx : p.tables.exec = Jvm.exec) (hb : c.code = cc) {x y : Int64} {F : Int64 → Option ρ} (hf : bd (lrm x y) F = some r) (hdg : decode cc pc = .ok (.lrem, 1)) (kk : ∀ v, F v = some r → W p l e R s m args below meth c H locs cells slots Q (F0 m (pc + 1) ls (.long v :: rest))) : W p l e R s m args below meth c H locs cells slots Q (F0 m pc ls (.long y :: .long x :: rest)) := by
  obtain ⟨v, h1, h2⟩ := bd_e hf
  obtain ⟨h3, rfl⟩ := nz_e h1
  exact lv_lrem hx hb hdg h3 (kk _ h2)
