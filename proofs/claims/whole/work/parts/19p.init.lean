theorem x5init {N : Nat} (hN : 100 < N) : ∃ set Q talls pairs, f_X5_init N = some (4, -6, 0, 0, (fun _ => 0), (fun _ => 0), -1, set, 20, Q, 2, 3, 10, talls, pairs, 1) ∧ (∀ k, k < 8 → set (3 * k) = nI 30 ∧ set (3 * k + 1) = nI 2 ∧ set (3 * k + 2) = nI 0) ∧ (∀ k, k < 8 → Q k = nI 1) ∧ (∀ k, k < 8 → talls k = nI 170) ∧ ∀ k, k < 64 → pairs k = nI 0 := by
  obtain ⟨s0, s1, s2⟩ := sp0_n hN (fun _ => 0)
  obtain ⟨t0, t1, t2⟩ := sp2_n hN (fun _ => 0)
  obtain ⟨u0, u1, u2, u3, u4⟩ := sp7_n hN (fun _ => 0) (fun _ => 0)
  refine ⟨s0, t0, u0, u1, ?_, s2, t2, u3, u4⟩
  unfold f_X5_init f_X6_init f_X0_init f_X2_init f_X7_init
  rw [s1, t1, u2]
  rfl
theorem pu_init : ∃ N set Q talls pairs mper mshut mpha mQ mtall mpairs, f_X8_init N = some ((fun _ => none), (fun _ => 0), (fun _ => 0), 0, 4, -6, 0, 0, (fun _ => 0), (fun _ => 0), -1, set, 20, Q, 2, 3, 10, talls, pairs, 1, (fun _ => 0), (fun _ => 0), (fun _ => 0), (fun _ => 0), 0, 0) ∧ f_X9_init N = some (4, 0, (fun _ => 0), -6, 0, mper, mshut, mpha, -1, mQ, 20, 2, 3, 10, mtall, mpairs, (fun _ => 0), 0, (fun _ => 0), (fun _ => 0), (fun _ => 0), (fun _ => 0), (fun _ => 0), 0, 0) ∧ R_scn 4 0 2 3 4 (-6) 0 0 (fun _ => 0) (fun _ => 0) (-1) set 20 Q 2 3 10 talls pairs 4 0 (fun _ => 0) (-6) 0 mper mshut mpha (-1) mQ 20 2 3 10 mtall mpairs := by
  obtain ⟨set, Q, talls, pairs, h1, h2, h3, h4, h5⟩ := x5init (N := 101) (by omega)
  obtain ⟨a', b', c', d', e', g', b1, b2, b3⟩ := beg_n (N := 101) (by omega) (fun _ => 0) (fun _ => 0) (fun _ => 0) (fun _ => 0) (fun _ => 0) (fun _ => 0) 4
  refine ⟨101, set, Q, talls, pairs, a', b', c', d', e', g', ?_, ?_, ?_⟩
  · unfold f_X8_init f_X3_init f_X1_init f_X4_init
    rw [h1]
    rfl
  · unfold f_X9_init
    rw [b1]
    rfl
  · exact ⟨⟨⟨by omega, by omega, by omega⟩, ⟨rfl, rfl, rfl, rfl⟩, fun s k h => by omega, fun s h => by omega, ⟨rfl, Or.inl rfl⟩, rfl, 0, by decide, rfl⟩, ⟨rfl, Or.inl rfl, fun k hk => ⟨30, 2, 0, by omega, by omega, by omega, by omega, (h2 k hk).1, (h2 k hk).2.1, (h2 k hk).2.2, (b2 k hk).1, (b2 k hk).2.1, (b2 k hk).2.2.1⟩⟩, ⟨rfl, ⟨20, by omega, rfl⟩, fun k hk => ⟨1, by omega, h3 k hk, (b2 k hk).2.2.2.1⟩⟩, ⟨by omega, by omega, by omega, by omega, by omega⟩, ⟨rfl, rfl, rfl, rfl⟩, ⟨rfl, 10, by omega, rfl⟩, fun k hk => ⟨170, by omega, h4 k hk, (b2 k hk).2.2.2.2⟩, fun k hk => ⟨0, by omega, h5 k hk, b3 k hk⟩, fun a b ha hb => by rw [b3 _ (by omega), b3 _ (by omega)]⟩
theorem pad_0 : R_pad (fun _ => 0) 0 (fun _ => 0) 0 := ⟨0, by omega, rfl, rfl, fun i h => by omega, fun i h => by omega⟩
