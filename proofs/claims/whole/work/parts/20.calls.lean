/-! each call keeps the bounds -/
theorem bd_mono {b b' n n' : Nat} (hb : b ≤ b') (hn : n ≤ n') (i : Nat) : bd b n i ≤ bd b' n' i := by
  unfold bd
  have h : (n + 1) * b ≤ (n' + 1) * b' := Nat.mul_le_mul (by omega) hb
  split
  · exact h
  · split
    · exact Nat.mul_le_mul_right _ h
    · split
      · exact Nat.mul_le_mul_right _ h
      · exact hb
theorem bd_ge (b n i : Nat) : b ≤ bd b n i := by
  unfold bd
  have h : b ≤ (n + 1) * b := Nat.le_mul_of_pos_left _ (by omega)
  split
  · exact h
  · split
    · exact Nat.le_trans h (Nat.le_mul_of_pos_right _ (by decide))
    · split
      · exact Nat.le_trans h (Nat.le_mul_of_pos_right _ (by decide))
      · exact Nat.le_refl _
theorem GB.mb {b b' n n' : Nat} {a : Nat → UInt64} (h : GB (bd b n) a) (hb : b ≤ b') (hn : n ≤ n') : GB (bd b' n') a := h.mono fun i _ => bd_mono hb hn i
theorem GB.put {b n : Nat} {a : Nat → UInt64} (h : GB (bd b n) a) {k : Nat} {x : UInt64} (hx : ft_P x) (hz : ft_z x ≤ b * FP.Core.one64) : GB (bd b n) (vf_upd a k x) := h.keep hx (Nat.le_trans hz (Nat.mul_le_mul_right _ (bd_ge b n k)))
/-- b and a few more -/
theorem b_R {b : Nat} (hb : b ≤ 2 ^ 34) : ft_R (b * FP.Core.one64) := by
  have := ft_R_one (m := b) (e := 0) (Nat.lt_of_le_of_lt hb (by decide)) (by decide)
  rwa [Nat.pow_zero, Nat.mul_one] at this
/-- a plain amount grows by at most k -/
theorem add_b {b k : Nat} {x y : UInt64} (hx : ft_P x) (hxz : ft_z x ≤ b * FP.Core.one64) (hy : ft_P y) (hyz : ft_z y ≤ k * FP.Core.one64) (hk : k ≤ 10000) (hb : b ≤ 2 ^ 33) : ft_P (FP.dadd x y) ∧ ft_z (FP.dadd x y) ≤ (b + 10000) * FP.Core.one64 ∧ ft_z x ≤ ft_z (FP.dadd x y) ∧ ft_z y ≤ ft_z (FP.dadd x y) :=
  ft_add hx hy (b_R (by omega)) (by
    have h1 : k * FP.Core.one64 ≤ 10000 * FP.Core.one64 := Nat.mul_le_mul_right _ hk
    rw [Nat.add_mul]
    omega)
/-- nothing times, nothing more -/
theorem ft_mz {x : UInt64} (h : ft_P x) : FP.dmul x 0 = 0 := by
  have hz := FP.Core.dmul_zero (a := x) (z := 0) h.fin ⟨false, _, FP.Core.val64_zero⟩
  obtain ⟨m1, -⟩ := ft_mul_le h ft_0P (by rw [ft_0z]; exact Nat.zero_le _)
  refine ft_inj m1 ft_0P ?_
  exact FP.Core.zero_iff.mpr hz
theorem ft_az {x : UInt64} (h : ft_P x) : FP.dadd x 0 = x := by
  refine FP.Core.dadd_zero h.fin.ne_nan fun e => ?_
  have := ft_bits h
  rw [e] at this
  exact absurd this (by decide)
theorem gp_U : ∀ k, k < 3 → ft_isP (gpD k) = true ∧ ft_z (gpD k) ≤ FP.Core.one64 := by decide +kernel
theorem ge_U : ∀ k, k < 3 → ∀ e, e < 4 → ft_isP (geD k e) = true ∧ ft_z (geD k e) ≤ FP.Core.one64 := by decide +kernel
theorem ge_1 : ∀ e, e < 4 → geD 1 e = 0 := by decide +kernel
theorem bd_pl {b n i : Nat} (h : i = 0 ∨ i = 1 ∨ 8 ≤ i) : bd b n i = b := by
  unfold bd
  rw [if_neg (by omega), if_neg (by omega), if_neg (by omega)]
theorem grain_ok {b n k : Nat} {a : Nat → UInt64} {kg st ts : UInt64} (hG : GB (bd b n) a) (hb : b ≤ 2 ^ 33) (hk : k < 3) (h1 : ft_P kg) (h2 : ft_z kg ≤ 1000 * FP.Core.one64) (h3 : ft_U st) (h4 : ft_P ts) (h5 : ft_z ts ≤ b * FP.Core.one64) :
    okG kg st k a ts ∧ GB (bd (b + 10000) n) (grA kg st k a) ∧ ft_P (FP.dadd ts (FP.dmul kg st)) ∧ ft_z (FP.dadd ts (FP.dmul kg st)) ≤ (b + 10000) * FP.Core.one64 ∧ (k = 1 → ∀ i, i < 4 → FP.dadd (a (9 + i)) (FP.dmul kg (geD 1 i)) = a (9 + i)) := by
  have pl : ∀ i, i < 13 → (i = 0 ∨ i = 1 ∨ 8 ≤ i) → ft_P (a i) ∧ ft_z (a i) ≤ b * FP.Core.one64 := fun i hi h => by
    have := hG i hi
    rwa [bd_pl h] at this
  have mu : ∀ y, ft_P y → ft_z y ≤ FP.Core.one64 → ft_P (FP.dmul kg y) ∧ ft_z (FP.dmul kg y) ≤ 1000 * FP.Core.one64 := fun y y1 y2 => by
    obtain ⟨m1, m2⟩ := ft_mul_le h1 y1 y2
    exact ⟨m1, Nat.le_trans m2 h2⟩
  obtain ⟨m1, m2⟩ := mu st h3.1 h3.2
  obtain ⟨g1, g2⟩ := gp_U k hk
  obtain ⟨p1, p2⟩ := mu (gpD k) (ft_isP_P g1) g2
  obtain ⟨u1, u2, -⟩ := add_b (pl 1 (by decide) (Or.inr (Or.inl rfl))).1 (pl 1 (by decide) (Or.inr (Or.inl rfl))).2 m1 m2 (by decide) hb
  obtain ⟨t1, t2, -⟩ := add_b h4 h5 m1 m2 (by decide) hb
  obtain ⟨v1, v2, -⟩ := add_b (pl 8 (by decide) (by omega)).1 (pl 8 (by decide) (by omega)).2 p1 p2 (by decide) hb
  have en : ∀ i, i < 4 → ft_P (FP.dmul kg (geD k i)) ∧ ft_P (FP.dadd (a (9 + i)) (FP.dmul kg (geD k i))) ∧ ft_z (FP.dadd (a (9 + i)) (FP.dmul kg (geD k i))) ≤ (b + 10000) * FP.Core.one64 := fun i hi => by
    obtain ⟨g1, g2⟩ := ge_U k hk i hi
    obtain ⟨q1, q2⟩ := mu (geD k i) (ft_isP_P g1) g2
    obtain ⟨w1, w2, -⟩ := add_b (pl (9 + i) (by omega) (by omega)).1 (pl (9 + i) (by omega) (by omega)).2 q1 q2 (by decide) hb
    exact ⟨q1, w1, w2⟩
  refine ⟨⟨m1.n, u1.n, t1.n, p1.n, v1.n, fun i hi => ⟨(en i hi).1.n, (en i hi).2.1.n⟩⟩, ?_, t1, t2, ?_⟩
  · have h6 : GB (bd (b + 10000) n) (gr2 kg st k a) := ((hG.mb (by omega) (Nat.le_refl _)).put u1 u2).put v1 v2
    intro i hi
    unfold grA grE
    by_cases h : 9 ≤ i ∧ i < 9 + 4
    · rw [if_pos h]
      have h7 := (en (i - 9) (by omega)).2
      have h8 := gr2_at kg st k a (i - 9)
      rw [show 9 + (i - 9) = i by omega] at h7 h8
      rw [h8, bd_pl (by omega)]
      exact h7
    · rw [if_neg h]
      exact h6 i hi
  · intro hk1 i hi
    subst hk1
    obtain ⟨e1, -⟩ := pl (9 + i) (by omega) (by omega)
    rw [ge_1 i hi]
    have h9 : FP.dmul kg 0 = 0 := ft_mz h1
    rw [h9]
    exact ft_az e1
