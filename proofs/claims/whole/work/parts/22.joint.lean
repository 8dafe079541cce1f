/-! the class and the reference behind c calls -/
def JI (c : Nat) (u : SS) (dv : Nat → Nat → UInt64) (ib hs : Nat → Int32) (ht : Nat → UInt64) (c0 kd : Nat) (A ts : UInt64) (pa : Nat → UInt64) : Prop :=
  ∃ b n : Nat, b ≤ 10000 * (c * 2 ^ cnt ib 8) ∧ n ≤ 1000000 ∧ u.2.2.2.2.2.1 = nI n ∧ GB (bd b n) u.1 ∧ (∀ i, i < kd → GB (bd b n) (dv i)) ∧ ft_P ts ∧ ft_z ts ≤ b * FP.Core.one64 ∧ ft_P u.2.2.2.2.2.2 ∧ ft_z u.2.2.2.2.2.2 ≤ 2 ^ (8 + c) * FP.Core.one64 ∧ ft_P A ∧ ft_z A ≤ 2 ^ (8 + c) * FP.Core.one64 ∧ kd ≤ 8 ∧ c0 ≤ 32 ∧ HG hs ht c0 ∧
    u.2.2.1 ≤ c0 ∧ (∀ i, i < u.2.2.1 → hs i ≤ nI n) ∧ ft_P u.2.2.2.2.1 ∧ (∀ k, k < 9 → u.2.2.2.1 k = rwv u.2.2.2.2.1 k (mk u.2.2.2.2.1)) ∧ (∀ i, i < kd → ∀ m, m < 13 → pa (13 * i + m) = dv i m) ∧ (∀ i, kd ≤ i → ib i = 0)
theorem b_31 {b c : Nat} {ib : Nat → Int32} (h : b ≤ 10000 * (c * 2 ^ cnt ib 8)) (hc : c ≤ 512) : b ≤ 2 ^ 31 := by
  have h1 : 2 ^ cnt ib 8 ≤ 2 ^ 8 := Nat.pow_le_pow_right (by decide) (cnt_le ib 8)
  have h2 : c * 2 ^ cnt ib 8 ≤ 512 * 2 ^ 8 := Nat.mul_le_mul hc h1
  have h3 : (512 * 2 ^ 8 : Nat) = 131072 := by decide
  have h4 : (2 ^ 31 : Nat) = 2147483648 := by decide
  omega
theorem b_next {b c : Nat} {ib : Nat → Int32} (h : b ≤ 10000 * (c * 2 ^ cnt ib 8)) : b + 10000 ≤ 10000 * ((c + 1) * 2 ^ cnt ib 8) := by
  have h1 : 0 < 2 ^ cnt ib 8 := Nat.two_pow_pos _
  rw [Nat.add_mul, Nat.one_mul]
  omega
section JX
variable {c : Nat} {u : SS} {dv : Nat → Nat → UInt64} {ib hs : Nat → Int32} {ht : Nat → UInt64} {c0 kd : Nat} {A ts : UInt64} {pa : Nat → UInt64}
theorem JI.next (h : JI c u dv ib hs ht c0 kd A ts pa) : JI (c + 1) u dv ib hs ht c0 kd A ts pa := by
  obtain ⟨b, n, j1, j2, j3, j4, j5, j6, j7, j8, j9, j10, j11, j12, j13, j14, j15, j16, j17, j18, j19, j20⟩ := h
  exact ⟨b, n, Nat.le_trans (Nat.le_add_right _ _) (b_next j1), j2, j3, j4, j5, j6, j7, j8, ft_pow (by omega) j9, j10, ft_pow (by omega) j11, j12, j13, j14, j15, j16, j17, j18, j19, j20⟩
theorem ft_mz2 {x : UInt64} (h : FP.Core.DFin x) {y : UInt64} (hy : ft_P y) : FP.dadd y (FP.dmul x 0) = y := by
  have hz := FP.Core.dmul_zero (a := x) (z := 0) h ⟨false, _, FP.Core.val64_zero⟩
  rcases FP.Core.zero_bits (FP.Core.zero_iff.mpr hz) with e | e
  · have e : FP.dmul x 0 = 0 := e
    rw [e]; exact ft_az hy
  · have e : FP.dmul x 0 = FP.Core.dzeroNeg := e
    rw [e]; exact FP.Core.dadd_zeroNeg hy.fin.ne_nan
theorem J_raw (h : JI c u dv ib hs ht c0 kd A ts pa) (x : Int32) : ∀ i, i < 4 → FP.dadd (u.1 (9 + i)) (FP.dmul (ag x) (geD 1 i)) = u.1 (9 + i) := fun i hi => by
  obtain ⟨b, n, -, -, -, j4, -⟩ := h
  rw [ge_1 i hi]
  exact ft_mz2 (ag_fin x) (j4 (9 + i) (by omega)).1
theorem J_grain (h : JI c u dv ib hs ht c0 kd A ts pa) (hc : c ≤ 511) (x1 x2 x3 : Int32) (hz : grOK (ag x1) (ag x2) x3) : okG (ag x1) (ag x2) x3.toNatClampNeg u.1 ts ∧ JI (c + 1) (grA (ag x1) (ag x2) x3.toNatClampNeg u.1, u.2) dv ib hs ht c0 kd A (FP.dadd ts (FP.dmul (ag x1) (ag x2))) pa := by
  obtain ⟨b, n, j1, j2, j3, j4, j5, j6, j7, j8, j9, j10, j11, j12, j13, j14, j15, j16, j17, j18, j19, j20⟩ := h
  have hb := b_31 j1 (by omega)
  obtain ⟨z1, z2, z3, z4, z5, z6⟩ := hz
  obtain ⟨k1, -⟩ := gt_P z1
  have k2 := z_le k1 c1000.1 c1000.2 z2
  have s1 : ft_P (ag x2) := ag_P ft_0P z3
  have s2 : ft_z (ag x2) ≤ FP.Core.one64 := by have := z_le (m := 1) s1 ft_c1P (by rw [ft_c1z, Nat.one_mul]) z4; rwa [Nat.one_mul] at this
  obtain ⟨k, hk, rfl⟩ := nI_of (x := x3) (Int32.not_lt.mpr z5)
  have hk3 : k < 3 := (nI_ltI hk (by decide)).mp z6
  rw [nI_clamp hk]
  obtain ⟨o1, o2, o3, o4, -⟩ := grain_ok j4 (by omega) hk3 k1 k2 ⟨s1, s2⟩ j6 j7
  exact ⟨o1, b + 10000, n, b_next j1, j2, j3, o2, fun i hi => (j5 i hi).mb (by omega) (Nat.le_refl _), o3, o4, j8, ft_pow (by omega) j9, j10, ft_pow (by omega) j11, j12, j13, j14, j15, j16, j17, j18, j19, j20⟩
theorem J_liquor (h : JI c u dv ib hs ht c0 kd A ts pa) (hc : c ≤ 511) (x1 x2 x3 : Int32) (hz : lqOK (ag x1) (ag x2) (ag x3)) : (okM u.2.2.2.2.2.2 (u.1 0) (ag x2) (ag x1) ∧ okM A (u.1 0) (ag x3) (ag x1)) ∧ FP.dcmp (FP.dadd (u.1 0) (ag x1)) 0 = some .gt ∧ JI (c + 1) (vf_upd u.1 0 (FP.dadd (u.1 0) (ag x1)), u.2.1, u.2.2.1, u.2.2.2.1, u.2.2.2.2.1, u.2.2.2.2.2.1, mixD u.2.2.2.2.2.2 (u.1 0) (ag x2) (ag x1)) dv ib hs ht c0 kd (mixD A (u.1 0) (ag x3) (ag x1)) ts pa := by
  obtain ⟨b, n, j1, j2, j3, j4, j5, j6, j7, j8, j9, j10, j11, j12, j13, j14, j15, j16, j17, j18, j19, j20⟩ := h
  have hb := b_31 j1 (by omega)
  obtain ⟨z1, z2, z3, z4, z5⟩ := hz
  obtain ⟨k1, k0⟩ := gt_P z1
  have k2 := z_le k1 c10000.1 c10000.2 z2
  obtain ⟨d1, d2⟩ := tp_P z3
  have a1 : ft_P (ag x3) := ag_P c3 z4
  have a2 := z_le a1 c8.1 c8.2 z5
  obtain ⟨o1, o2, o3, o4, o5⟩ := liquor_ok j4 (by omega) j8 j9 j10 j11 (by omega) (by omega) k1 k0 k2 d1 d2 a1 a2
  exact ⟨o1, o2, b + 10000, n, b_next j1, j2, j3, o5, fun i hi => (j5 i hi).mb (by omega) (Nat.le_refl _), j6, Nat.le_trans j7 (Nat.mul_le_mul_right _ (by omega)), o3.1, o3.2, o4.1, o4.2, j12, j13, j14, j15, j16, j17, j18, j19, j20⟩
theorem J_enzyme (h : JI c u dv ib hs ht c0 kd A ts pa) (hc : c ≤ 511) (x1 x2 : Int32) (hz : ezOK x1 (ag x2)) : vf_n64 (FP.dadd (u.1 (9 + x1.toNatClampNeg)) (ag x2)) ∧ JI (c + 1) (vf_upd u.1 (9 + x1.toNatClampNeg) (FP.dadd (u.1 (9 + x1.toNatClampNeg)) (ag x2)), u.2) dv ib hs ht c0 kd A ts pa := by
  obtain ⟨b, n, j1, j2, j3, j4, j5, j6, j7, j8, j9, j10, j11, j12, j13, j14, j15, j16, j17, j18, j19, j20⟩ := h
  have hb := b_31 j1 (by omega)
  obtain ⟨z1, z2, z3, z4⟩ := hz
  obtain ⟨k1, -⟩ := gt_P z1
  have k2 := z_le k1 c1000.1 c1000.2 z2
  obtain ⟨k, hk, rfl⟩ := nI_of (x := x1) (Int32.not_lt.mpr z3)
  have hk4 : k < 4 := (nI_ltI hk (by decide)).mp z4
  rw [nI_clamp hk]
  obtain ⟨e1, e2⟩ := j4 (9 + k) (by omega)
  rw [bd_pl (by omega)] at e2
  obtain ⟨o1, o2, -⟩ := add_b e1 e2 k1 k2 (by decide) (by omega)
  exact ⟨o1.n, b + 10000, n, b_next j1, j2, j3, (j4.mb (by omega) (Nat.le_refl _)).put o1 o2, fun i hi => (j5 i hi).mb (by omega) (Nat.le_refl _), j6, Nat.le_trans j7 (Nat.mul_le_mul_right _ (by omega)), j8, ft_pow (by omega) j9, j10, ft_pow (by omega) j11, j12, j13, j14, j15, j16, j17, j18, j19, j20⟩
theorem J_step (h : JI c u dv ib hs ht c0 kd A ts pa) (x1 x2 : Int32) (hz : stOK hs c0 u.2.2.2.2.2.1 x1 (ag x2)) : JI (c + 1) u dv ib (upd hs c0 x1) (vf_upd ht c0 (ag x2)) (c0 + 1) kd A ts pa := by
  obtain ⟨b, n, j1, j2, j3, j4, j5, j6, j7, j8, j9, j10, j11, j12, j13, j14, j15, j16, j17, j18, j19, j20⟩ := JI.next h
  obtain ⟨z1, z2, z3, z4, -⟩ := hz
  obtain ⟨d1, d2⟩ := tp_P z3
  rw [j3] at z1
  obtain ⟨x, hx, rfl⟩ := nI_of (x := x1) (fun h0 => by
    have h1 : (0 : Int32) ≤ nI n := nI_pos' (by omega)
    exact absurd (Int32.lt_of_le_of_lt h1 z1) (Int32.not_lt.mpr (Int32.le_of_lt h0)))
  have hx2 : x ≤ 1000000 := (nI_leI (a := x) (b := 1000000) hx (by decide)).mp z2
  refine ⟨b, n, j1, j2, j3, j4, j5, j6, j7, j8, j9, j10, j11, j12, by omega, fun i hi => ?_, Nat.le_succ_of_le j15, fun i hi => ?_, j17, j18, j19, j20⟩
  · by_cases e : i = c0
    · subst e
      rw [show upd hs i (nI x) i = nI x from if_pos rfl, show vf_upd ht i (ag x2) i = ag x2 from if_pos rfl]
      exact ⟨⟨x, hx2, rfl⟩, d1, d2⟩
    · rw [show upd hs c0 (nI x) i = hs i from if_neg e, show vf_upd ht c0 (ag x2) i = ht i from if_neg e]
      exact j14 i (by omega)
  · rw [show upd hs c0 (nI x) i = hs i from if_neg (by omega)]
    exact j16 i hi
theorem J_take (h : JI c u dv ib hs ht c0 kd A ts pa) (x1 : Int32) (g l : Int32) (hz : tkS (ag x1) g l) : (∀ i, i < 13 → vf_n64 (FP.dmul (u.1 i) (ag x1)) ∧ vf_n64 (FP.dsub (u.1 i) (FP.dmul (u.1 i) (ag x1)))) ∧ (kd < 8 → JI (c + 1) (tkA u.1 (ag x1) 13, u.2) (va_up dv kd (tkD u.1 (ag x1) 13 (dv kd))) ib hs ht c0 (kd + 1) A ts (tkP u.1 (ag x1) kd 13 pa) ∧ upd ib kd 0 = ib) := by
  obtain ⟨b, n, j1, j2, j3, j4, j5, j6, j7, j8, j9, j10, j11, j12, j13, j14, j15, j16, j17, j18, j19, j20⟩ := JI.next h
  obtain ⟨z1, z2, -⟩ := hz
  obtain ⟨k1, -⟩ := gt_P z1
  have k2 : ft_z (ag x1) ≤ FP.Core.one64 := by
    have := (ft_lt k1 ft_c1P).mp z2
    rw [ft_c1z] at this
    omega
  obtain ⟨o1, o2, o3⟩ := take_ok (r := dv kd) j4 ⟨k1, k2⟩
  refine ⟨o1, fun hk8 => ⟨⟨b, n, j1, j2, j3, o2, fun i hi => ?_, j6, j7, j8, j9, j10, j11, by omega, j13, j14, j15, j16, j17, j18, fun i hi m hm => ?_, fun i hi => j20 i (by omega)⟩, funext fun i => ?_⟩⟩
  · by_cases e : i = kd
    · subst e
      rw [show va_up dv i (tkD u.1 (ag x1) 13 (dv i)) i = tkD u.1 (ag x1) 13 (dv i) from if_pos rfl]
      exact o3
    · rw [show va_up dv kd (tkD u.1 (ag x1) 13 (dv kd)) i = dv i from if_neg e]
      exact j5 i (by omega)
  · by_cases e : i = kd
    · subst e
      rw [show va_up dv i (tkD u.1 (ag x1) 13 (dv i)) i = tkD u.1 (ag x1) 13 (dv i) from if_pos rfl]
      unfold tkP tkD
      rw [if_pos (by omega), if_pos hm, show 13 * i + m - 13 * i = m by omega]
    · rw [show va_up dv kd (tkD u.1 (ag x1) 13 (dv kd)) i = dv i from if_neg e]
      unfold tkP
      rw [if_neg (by omega)]
      exact j19 i (by omega) m hm
  · unfold upd
    split
    · rename_i e; rw [e]; exact (j20 kd (Nat.le_refl _)).symm
    · rfl
theorem J_back (h : JI c u dv ib hs ht c0 kd A ts pa) (hc : c ≤ 511) (x1 x2 : Int32) (hz : bkOK ib (nI kd) x1 (ag x2)) :
    (okM u.2.2.2.2.2.2 (u.1 0) (ag x2) (dv x1.toNatClampNeg 0) ∧ ∀ i, i < 13 → vf_n64 (FP.dadd (u.1 i) (dv x1.toNatClampNeg i))) ∧ (pa (13 * x1.toNatClampNeg) = dv x1.toNatClampNeg 0 ∧ ∀ i, i < 13 → pa (13 * x1.toNatClampNeg + i) = dv x1.toNatClampNeg i) ∧ bkA u.1 (fun m => pa (13 * x1.toNatClampNeg + m)) 13 = bkA u.1 (dv x1.toNatClampNeg) 13 ∧
    JI (c + 1) (bkA u.1 (dv x1.toNatClampNeg) 13, u.2.1, u.2.2.1, u.2.2.2.1, u.2.2.2.2.1, u.2.2.2.2.2.1, mixD u.2.2.2.2.2.2 (u.1 0) (ag x2) (dv x1.toNatClampNeg 0)) dv (upd ib x1.toNatClampNeg 1) hs ht c0 kd A ts pa := by
  obtain ⟨b, n, j1, j2, j3, j4, j5, j6, j7, j8, j9, j10, j11, j12, j13, j14, j15, j16, j17, j18, j19, j20⟩ := h
  have hb := b_31 j1 (by omega)
  obtain ⟨z1, z2, z3, z4⟩ := hz
  obtain ⟨d1, d2⟩ := tp_P z4
  obtain ⟨k, hk, rfl⟩ := nI_of (x := x1) (Int32.not_lt.mpr z1)
  have hkd : k < kd := (nI_ltI hk (by omega)).mp z2
  rw [nI_clamp hk] at z3 ⊢
  obtain ⟨o1, o2, o3, o4⟩ := back_ok j4 (j5 k hkd) hb (by omega) j8 j9 (by omega) (by omega) d1 d2
  have hpa := j19 k hkd
  have hcn : cnt (upd ib k 1) 8 = cnt ib 8 + 1 := cnt_up z3 8 (by omega)
  refine ⟨⟨o1, o2⟩, ⟨hpa 0 (by decide), hpa⟩, funext fun m => ?_, 2 * b, n, ?_, j2, j3, o4, fun i hi => (j5 i hi).mb (by omega) (Nat.le_refl _), j6, Nat.le_trans j7 (Nat.mul_le_mul_right _ (by omega)), o3.1, o3.2, j10, ft_pow (by omega) j11, j12, j13, j14, j15, j16, j17, j18, j19, fun i hi => ?_⟩
  · unfold bkA
    split
    · rename_i hm; exact congrArg (FP.dadd (u.1 m)) (hpa m hm)
    · rfl
  · rw [hcn, Nat.pow_succ, Nat.add_mul, ← Nat.mul_assoc]
    omega
  · rw [show upd ib k 1 i = ib i from if_neg (by omega)]
    exact j20 i hi
theorem J_starch (h : JI c u dv ib hs ht c0 kd A ts pa) (hc : c ≤ 511) : vf_n64 (FP.dadd (u.1 1) (u.1 2)) ∧ vf_n64 (FP.dmul 4638707616191610880 (FP.dadd (u.1 1) (u.1 2))) ∧ FP.dcmp (FP.dmul 4638707616191610880 (FP.dadd (u.1 1) (u.1 2))) ts ≠ none := by
  obtain ⟨b, n, j1, j2, j3, j4, j5, j6, -⟩ := h
  exact starch_ok j4 (by have := b_31 j1 (by omega); omega) (by omega) j6
theorem J_kd (h : JI c u dv ib hs ht c0 kd A ts pa) {bs n : Nat} (hn : bs + n ≤ 13) (x : Int32) : FP.dcmp (kdV u.1 bs n x) (kdV u.1 bs n x) = some .eq := by
  obtain ⟨b, n9, j1, j2, j3, j4, -⟩ := h
  unfold kdV
  split
  · rename_i h1
    obtain ⟨k, hk, rfl⟩ := nI_of (x := x) (Int32.not_lt.mpr h1.1)
    rw [nI_clamp hk]
    have := (nI_ltI (a := k) (b := n) hk (by omega)).mp h1.2
    exact FP.Core.dcmp_self (j4 (bs + k) (by omega)).1.fin.ne_nan
  · decide +kernel
theorem J_run (h : JI c u dv ib hs ht c0 kd A ts pa) (hc : c ≤ 511) (ac2 : Nat → UInt64) (x1 g l : Int32) (hz : rnOK g l x1 u.2.2.2.2.2.1) :
    (∀ i, i < x1.toNatClampNeg → okS hs ht c0 A (itS hs ht c0 A i u) ∧ okN hs ht c0 A (itN hs ht c0 A i (u.1, ac2, u.2.2.2.2.2.1, u.2.2.2.2.2.2))) ∧
    itN hs ht c0 A x1.toNatClampNeg (u.1, ac2, u.2.2.2.2.2.1, u.2.2.2.2.2.2) = ((itS hs ht c0 A x1.toNatClampNeg u).1, (itN hs ht c0 A x1.toNatClampNeg (u.1, ac2, u.2.2.2.2.2.1, u.2.2.2.2.2.2)).2.1, (itS hs ht c0 A x1.toNatClampNeg u).2.2.2.2.2.1, (itS hs ht c0 A x1.toNatClampNeg u).2.2.2.2.2.2) ∧
    JI (c + 1) (itS hs ht c0 A x1.toNatClampNeg u) dv ib hs ht c0 kd A ts pa := by
  obtain ⟨b, n, j1, j2, j3, j4, j5, j6, j7, j8, j9, j10, j11, j12, j13, j14, j15, j16, j17, j18, j19, j20⟩ := h
  have hb := b_31 j1 (by omega)
  obtain ⟨-, z1, z2, z3⟩ := hz
  obtain ⟨N, hN, rfl⟩ := nI_of (x := x1) (Int32.not_lt.mpr z1)
  rw [nI_clamp hN]
  have hNn : n + N ≤ 1000000 := by
    rw [j3, show (1000000 : Int32) = nI 1000000 from rfl, pk_sub j2] at z3
    have := (nI_leI hN (by omega)).mp z3
    omega
  have hR : ft_R (2 ^ (8 + c) * FP.Core.one64) := by have := ft_R_one (m := 1) (e := 8 + c) (by decide) (by omega); rwa [Nat.one_mul] at this
  have h200 : 200 * FP.Core.one64 ≤ 2 ^ (8 + c) * FP.Core.one64 := Nat.mul_le_mul_right _ (Nat.le_trans (show 200 ≤ 2 ^ 8 by decide) (Nat.pow_le_pow_right (by decide) (by omega)))
  have h0 : RI hs c0 b (2 ^ (8 + c) * FP.Core.one64) n u (u.1, ac2, u.2.2.2.2.2.1, u.2.2.2.2.2.2) := ⟨rfl, j3, j3, rfl, j4, j8, j9, j15, j16, j17, j18⟩
  have hr := RI_run (ht := ht) (A := A) h0 j14 j10 (by omega) hR h200
  refine ⟨fun i hi => ?_, ?_, ?_⟩
  · have := RI_step (hr i (by omega)) j14 j10 (by omega) (by omega) hR h200
    exact ⟨this.1, this.2.1⟩
  · obtain ⟨r1, r2, r3, r4, -⟩ := hr N hNn
    generalize itN hs ht c0 A N (u.1, ac2, u.2.2.2.2.2.1, u.2.2.2.2.2.2) = v at *
    obtain ⟨v1, v2, v3, v4⟩ := v
    dsimp only at r1 r3 r4 ⊢
    rw [r1, r2, r3, r4]
  · obtain ⟨r1, r2, r3, r4, r5, r6, r7, r8, r9, r10, r11⟩ := hr N hNn
    exact ⟨b, n + N, Nat.le_trans (Nat.le_add_right _ _) (b_next j1), hNn, r2, r5, fun i hi => (j5 i hi).mb (Nat.le_refl _) (by omega), j6, j7, r6, ft_pow (by omega) r7, j10, ft_pow (by omega) j11, j12, j13, j14, r8, r9, r10, r11, j19, j20⟩
end JX
