/-! Doubles that are finite and bear no sign, measured in units of the least one. -/
/-- finite, no sign -/
def ft_P (a : UInt64) : Prop := ∃ c q, FP.Core.val64 a = .fin false c q
/-- its magnitude in units -/
def ft_z (a : UInt64) : Nat := FP.Core.zmag FP.Core.b64 (FP.Core.val64 a)
/-- so many units are a number of the format -/
def ft_R (n : Nat) : Prop := ∃ c q, FP.Core.fits FP.Core.b64 (.fin false c q) ∧ FP.Core.zmag FP.Core.b64 (.fin false c q) = n
theorem ft_qmax : FP.Core.b64.qmax = 971 := by decide
theorem ft_qm : (-FP.Core.b64.qmin).toNat = 1074 := by decide
theorem ft_one_eq : FP.Core.one64 = 2 ^ (-FP.Core.b64.qmin).toNat := FP.Core.pow_qmin64.symm
theorem ft_one_pos : 0 < FP.Core.one64 := FP.Core.one64_pos
theorem ft_fit {a : UInt64} {s : Bool} {c : Nat} {q : Int} (h : FP.Core.val64 a = .fin s c q) : FP.Core.fits FP.Core.b64 (.fin s c q) := h ▸ FP.Core.val64_fits a
theorem ft_P.R {a : UInt64} (h : ft_P a) : ft_R (ft_z a) := by
  obtain ⟨c, q, e⟩ := h
  exact ⟨c, q, ft_fit e, by unfold ft_z; rw [e]⟩
theorem ft_R_of {m e : Nat} (hm : m < 2 ^ 53) (he : e ≤ 2045) : ft_R (m * 2 ^ e) := by
  have hq := FP.Core.qmin_b64
  have hx := ft_qmax
  obtain ⟨c', q', h1, h2⟩ := FP.Core.round_exact FP.Core.good_b64 false (c := m) (q := FP.Core.b64.qmin + (e : Int)) hm (by omega) (by omega)
  refine ⟨c', q', h1 ▸ FP.Core.round_fits FP.Core.good_b64 _, ?_⟩
  show FP.Core.inUnits c' q' FP.Core.b64.qmin = _
  rw [h2]
  unfold FP.Core.inUnits
  rw [show (FP.Core.b64.qmin + (e : Int) - FP.Core.b64.qmin).toNat = e by omega]
theorem ft_R_one {m e : Nat} (hm : m < 2 ^ 53) (he : e ≤ 971) : ft_R (m * 2 ^ e * FP.Core.one64) := by
  rw [ft_one_eq, Nat.mul_assoc, ← Nat.pow_add]
  have := ft_qm
  exact ft_R_of hm (by omega)
theorem ft_R_shift {n k e : Nat} (h : ft_R n) (hb : n ≤ 2 ^ e) (he : e + k ≤ 2045) : ft_R (n * 2 ^ k) := by
  obtain ⟨c, q, hf, rfl⟩ := h
  show ft_R (FP.Core.inUnits c q FP.Core.b64.qmin * 2 ^ k)
  have hb : FP.Core.inUnits c q FP.Core.b64.qmin ≤ 2 ^ e := hb
  unfold FP.Core.inUnits at hb ⊢
  rw [Nat.mul_assoc, ← Nat.pow_add]
  by_cases h0 : c = 0
  · subst h0
    rw [Nat.zero_mul]
    have := ft_R_of (m := 0) (e := 0) (by decide) (by decide)
    rwa [Nat.zero_mul] at this
  · refine ft_R_of hf.1 ?_
    have h1 : 2 ^ (q - FP.Core.b64.qmin).toNat ≤ 2 ^ e := Nat.le_trans (Nat.le_mul_of_pos_left _ (Nat.pos_of_ne_zero h0)) hb
    have h2 := (Nat.pow_le_pow_iff_right (by decide : 1 < 2)).mp h1
    omega
/-- rounding below a number of the format -/
theorem ft_round {s : Bool} {A B : Nat} {e e0 : Int} {n : Nat} (hB : 0 < B) (hn : ft_R n) (h0 : e0 ≤ FP.Core.b64.qmin) (h0e : e0 ≤ e)
    (h : FP.Core.inUnits A e e0 ≤ n * 2 ^ (FP.Core.b64.qmin - e0).toNat * B) :
    ∃ c q, FP.Core.roundRatio FP.Core.b64 s A B e = .fin s c q ∧ FP.Core.zmag FP.Core.b64 (.fin s c q) ≤ n := by
  obtain ⟨c, q, fv, rfl⟩ := hn
  have hz := FP.Core.zmag_roundRatio_le FP.Core.good_b64 (s := s) hB fv (by intro h; cases h) h0 h0e h
  rcases FP.Core.roundRatio_cases FP.Core.b64 s A B e with ⟨c', q', hR⟩ | hR
  · rw [hR] at hz
    exact ⟨c', q', hR, hz⟩
  · rw [hR] at hz
    exact absurd hz (Nat.not_le_of_lt (FP.Core.zmag_lt_top FP.Core.good_b64 fv))
theorem ft_zvF (c : Nat) (q : Int) : FP.Core.zval FP.Core.b64 (.fin false c q) = (FP.Core.zmag FP.Core.b64 (.fin false c q) : Int) := by
  simp [FP.Core.zval, FP.Core.sgn, FP.Core.signed]
theorem ft_zvT (c : Nat) (q : Int) : FP.Core.zval FP.Core.b64 (.fin true c q) = -(FP.Core.zmag FP.Core.b64 (.fin true c q) : Int) := by
  simp [FP.Core.zval, FP.Core.sgn, FP.Core.signed]
/-- a sum that isn't below zero has no sign -/
theorem ft_sum {s t : Bool} {c d : Nat} {q r : Int} (fx : FP.Core.fits FP.Core.b64 (.fin s c q)) (fy : FP.Core.fits FP.Core.b64 (.fin t d r)) (hst : (s && t) = false)
    (h : 0 ≤ FP.Core.zval FP.Core.b64 (.fin s c q) + FP.Core.zval FP.Core.b64 (.fin t d r)) :
    ∃ n e, FP.Core.exactSum (.fin s c q) (.fin t d r) = .fin false n e ∧ FP.Core.b64.qmin ≤ e ∧
      (FP.Core.inUnits n e FP.Core.b64.qmin : Int) = FP.Core.zval FP.Core.b64 (.fin s c q) + FP.Core.zval FP.Core.b64 (.fin t d r) := by
  obtain ⟨sg, n, e, p1, p2, p3⟩ := FP.Core.sum_units fx fy
  have hsg : sg = false := by
    have p1' : (FP.Core.Datum.fin (FP.Core.sumSign s t (FP.Core.sumUnits s c q t d r (min q r))) (FP.Core.sumUnits s c q t d r (min q r)).natAbs (min q r)) = .fin sg n e := p1
    injection p1' with e1 e2 e3
    by_cases hU : FP.Core.sumUnits s c q t d r (min q r) = 0
    · rw [← e1]
      unfold FP.Core.sumSign
      rw [if_pos hU]
      exact hst
    · cases sg with
      | false => rfl
      | true =>
        exfalso
        have h1 : FP.Core.inUnits n e FP.Core.b64.qmin = 0 := by
          simp only [FP.Core.signed, if_true] at p3
          omega
        unfold FP.Core.inUnits at h1
        rcases Nat.mul_eq_zero.mp h1 with h2 | h2
        · exact hU (Int.natAbs_eq_zero.mp (e2.trans h2))
        · exact absurd h2 (Nat.ne_of_gt (Nat.two_pow_pos _))
  subst hsg
  refine ⟨n, e, p1, p2, ?_⟩
  simpa [FP.Core.signed] using p3
theorem ft_round1 {s : Bool} {A n : Nat} {e : Int} (hn : ft_R n) (h0e : FP.Core.b64.qmin ≤ e) (h : FP.Core.inUnits A e FP.Core.b64.qmin ≤ n) :
    ∃ c q, FP.Core.round FP.Core.b64 (.fin s A e) = .fin s c q ∧ FP.Core.zmag FP.Core.b64 (.fin s c q) ≤ n := by
  refine ft_round (B := 1) (by decide) hn (Int.le_refl _) h0e ?_
  rw [Int.sub_self, Int.toNat_zero, Nat.pow_zero, Nat.mul_one, Nat.mul_one]
  exact h
theorem ft_round1_ge {s t : Bool} {A c : Nat} {e q : Int} (fv : FP.Core.fits FP.Core.b64 (.fin t c q)) (h0e : FP.Core.b64.qmin ≤ e) (h : FP.Core.zmag FP.Core.b64 (.fin t c q) ≤ FP.Core.inUnits A e FP.Core.b64.qmin) :
    FP.Core.zmag FP.Core.b64 (.fin t c q) ≤ FP.Core.zmag FP.Core.b64 (FP.Core.round FP.Core.b64 (.fin s A e)) := by
  refine FP.Core.zmag_roundRatio_ge (B := 1) FP.Core.good_b64 (by decide) fv (Int.le_refl _) h0e ?_
  rw [Int.sub_self, Int.toNat_zero, Nat.pow_zero, Nat.mul_one, Nat.mul_one]
  exact h
theorem ft_add {a b : UInt64} {n : Nat} (ha : ft_P a) (hb : ft_P b) (hn : ft_R n) (h : ft_z a + ft_z b ≤ n) :
    ft_P (FP.dadd a b) ∧ ft_z (FP.dadd a b) ≤ n ∧ ft_z a ≤ ft_z (FP.dadd a b) ∧ ft_z b ≤ ft_z (FP.dadd a b) := by
  obtain ⟨c, q, ea⟩ := ha
  obtain ⟨d, r, eb⟩ := hb
  unfold ft_z at h ⊢
  have hv : FP.Core.val64 (FP.dadd a b) = _ := FP.Core.val64_dadd a b
  rw [ea, eb] at h hv
  obtain ⟨k, e, p1, p2, p3⟩ := ft_sum (ft_fit ea) (ft_fit eb) rfl (by rw [ft_zvF, ft_zvF]; omega)
  rw [ft_zvF, ft_zvF] at p3
  rw [p1] at hv
  obtain ⟨c', q', r1, r2⟩ := ft_round1 (s := false) (A := k) (e := e) hn p2 (by omega)
  have g1 := ft_round1_ge (s := false) (A := k) (e := e) (ft_fit ea) p2 (by omega)
  have g2 := ft_round1_ge (s := false) (A := k) (e := e) (ft_fit eb) p2 (by omega)
  rw [← hv] at g1 g2
  rw [ea, eb]
  refine ⟨⟨c', q', by rw [hv, r1]⟩, by rw [hv, r1]; exact r2, g1, g2⟩
theorem ft_sub {a b : UInt64} {n : Nat} (ha : ft_P a) (hb : ft_P b) (hle : ft_z b ≤ ft_z a) (hn : ft_R n) (h : ft_z a - ft_z b ≤ n) :
    ft_P (FP.dsub a b) ∧ ft_z (FP.dsub a b) ≤ n := by
  obtain ⟨c, q, ea⟩ := ha
  obtain ⟨d, r, eb⟩ := hb
  unfold ft_z at h hle ⊢
  have hv : FP.Core.val64 (FP.dsub a b) = _ := FP.Core.val64_dsub a b
  rw [ea, eb] at h hle hv
  have hz : FP.Core.zmag FP.Core.b64 (.fin true d r) = FP.Core.zmag FP.Core.b64 (.fin false d r) := rfl
  obtain ⟨k, e, p1, p2, p3⟩ := ft_sum (t := true) (ft_fit ea) (FP.Core.negate_fits (ft_fit eb)) rfl (by rw [ft_zvF, ft_zvT, hz]; omega)
  rw [ft_zvF, ft_zvT, hz] at p3
  rw [show FP.Core.negate (.fin false d r) = .fin true d r from rfl, p1] at hv
  obtain ⟨c', q', r1, r2⟩ := ft_round1 (s := false) (A := k) (e := e) hn p2 (by omega)
  exact ⟨⟨c', q', by rw [hv, r1]⟩, by rw [hv, r1]; exact r2⟩
theorem ft_sub_le {a b : UInt64} (ha : ft_P a) (hb : ft_P b) (hle : ft_z b ≤ ft_z a) : ft_P (FP.dsub a b) ∧ ft_z (FP.dsub a b) ≤ ft_z a :=
  ft_sub ha hb hle ha.R (Nat.sub_le _ _)
theorem ft_mul {a b : UInt64} {n : Nat} (ha : ft_P a) (hb : ft_P b) (hn : ft_R n) (h : ft_z a * ft_z b ≤ n * FP.Core.one64) :
    ft_P (FP.dmul a b) ∧ ft_z (FP.dmul a b) ≤ n := by
  obtain ⟨c, q, ea⟩ := ha
  obtain ⟨d, r, eb⟩ := hb
  unfold ft_z at h ⊢
  have hv : FP.Core.val64 (FP.dmul a b) = _ := FP.Core.val64_dmul a b
  rw [ea, eb] at h hv
  obtain ⟨p1, p2, p3⟩ := FP.Core.product_units (ft_fit ea) (ft_fit eb)
  have hq := FP.Core.qmin_b64
  rw [p1] at hv
  obtain ⟨c', q', r1, r2⟩ := ft_round (s := false) (A := c * d) (B := 1) (e := q + r) (e0 := 2 * FP.Core.b64.qmin) (by decide) hn (by omega) p2 (by
    rw [p3, Nat.mul_one, show FP.Core.b64.qmin - 2 * FP.Core.b64.qmin = -FP.Core.b64.qmin by omega, ← ft_one_eq]
    exact h)
  have hv' : FP.Core.val64 (FP.dmul a b) = .fin false c' q' := hv.trans r1
  exact ⟨⟨c', q', hv'⟩, by rw [hv']; exact r2⟩
theorem ft_mul_le {a b : UInt64} (ha : ft_P a) (hb : ft_P b) (h : ft_z b ≤ FP.Core.one64) : ft_P (FP.dmul a b) ∧ ft_z (FP.dmul a b) ≤ ft_z a :=
  ft_mul ha hb ha.R (Nat.mul_le_mul_left _ h)
theorem ft_div_fin {s : Bool} {c d : Nat} {q r : Int} {n : Nat} (fa : FP.Core.fits FP.Core.b64 (.fin s c q)) (fb : FP.Core.fits FP.Core.b64 (.fin false d r)) (h0 : 0 < FP.Core.zmag FP.Core.b64 (.fin false d r)) (hn : ft_R n) (h : FP.Core.zmag FP.Core.b64 (.fin s c q) * FP.Core.one64 ≤ n * FP.Core.zmag FP.Core.b64 (.fin false d r)) :
    ∃ c' q', FP.Core.quotient FP.Core.b64 (.fin s c q) (.fin false d r) = .fin s c' q' ∧ FP.Core.zmag FP.Core.b64 (.fin s c' q') ≤ n := by
  have hq := FP.Core.qmin_b64
  have hd0 : d ≠ 0 := by
    rintro rfl
    have h1 : FP.Core.zmag FP.Core.b64 (.fin false 0 r) = 0 := Nat.zero_mul _
    omega
  have hx1 := fa.2.1
  have hy1 := fb.2.1
  have hs : (s != false) = s := by cases s <;> rfl
  simp only [FP.Core.quotient, if_neg hd0, hs]
  refine ft_round (e0 := 2 * FP.Core.b64.qmin - r) (by omega) hn (by omega) (by omega) ?_
  have e1 : FP.Core.inUnits c (q - r) (2 * FP.Core.b64.qmin - r) = FP.Core.zmag FP.Core.b64 (.fin s c q) * 2 ^ (-FP.Core.b64.qmin).toNat := by
    show c * _ = c * _ * _
    rw [Nat.mul_assoc, ← Nat.pow_add]; congr 2; omega
  have e2 : 2 ^ (FP.Core.b64.qmin - (2 * FP.Core.b64.qmin - r)).toNat * d = FP.Core.zmag FP.Core.b64 (.fin false d r) := by
    show _ = d * _
    rw [Nat.mul_comm]; congr 2; omega
  rw [e1, Nat.mul_assoc, e2, ← ft_one_eq]
  exact h
theorem ft_div {a b : UInt64} {n : Nat} (ha : ft_P a) (hb : ft_P b) (h0 : 0 < ft_z b) (hn : ft_R n) (h : ft_z a * FP.Core.one64 ≤ n * ft_z b) :
    ft_P (FP.ddiv a b) ∧ ft_z (FP.ddiv a b) ≤ n := by
  obtain ⟨c, q, ea⟩ := ha
  obtain ⟨d, r, eb⟩ := hb
  unfold ft_z at h h0 ⊢
  have hv : FP.Core.val64 (FP.ddiv a b) = _ := FP.Core.val64_ddiv a b
  rw [ea, eb] at h hv
  rw [eb] at h0
  obtain ⟨c', q', r1, r2⟩ := ft_div_fin (ft_fit ea) (ft_fit eb) h0 hn h
  exact ⟨⟨c', q', by rw [hv, r1]⟩, by rw [hv, r1]; exact r2⟩
theorem ft_nn {a : UInt64} (h : FP.Core.val64 a ≠ .nan) : vf_n64 a := by
  unfold vf_n64
  rw [UInt64.le_iff_toNat_le, FP.Core.mask_toNat]
  exact (FP.Core.ne_nan a).mp h
theorem ft_fn {a : UInt64} (h : FP.Core.DFin a) : vf_n64 a := ft_nn h.ne_nan
theorem ft_P.fin {a : UInt64} (h : ft_P a) : FP.Core.DFin a := by
  obtain ⟨c, q, e⟩ := h
  exact ⟨false, c, q, e⟩
theorem ft_P.n {a : UInt64} (h : ft_P a) : vf_n64 a := ft_fn h.fin
theorem ft_bn {a : UInt64} (h : FP.Core.dIsNaN a = false) : vf_n64 a := ft_nn ((FP.Core.notNaN_iff a).mp h)
theorem ft_P.zv {a : UInt64} (h : ft_P a) : FP.Core.zval FP.Core.b64 (FP.Core.val64 a) = (ft_z a : Int) := by
  obtain ⟨c, q, e⟩ := h
  unfold ft_z
  rw [e, ft_zvF]
/-- comparison of two such -/
theorem ft_cmp {a b : UInt64} (ha : ft_P a) (hb : ft_P b) : FP.dcmp a b = some (compare (ft_z a : Int) (ft_z b : Int)) := by
  have := FP.Core.dcmp_zval ha.fin.ne_nan hb.fin.ne_nan
  rw [ha.zv, hb.zv] at this
  exact this
theorem ft_lt {a b : UInt64} (ha : ft_P a) (hb : ft_P b) : FP.dcmp a b = some .lt ↔ ft_z a < ft_z b := by
  rw [ft_cmp ha hb, Option.some.injEq, FP.Core.compare_lt_iff]
  omega
theorem ft_gt {a b : UInt64} (ha : ft_P a) (hb : ft_P b) : FP.dcmp a b = some .gt ↔ ft_z b < ft_z a := by
  rw [ft_cmp ha hb, Option.some.injEq, FP.Core.compare_gt_iff]
  omega
theorem ft_eq {a b : UInt64} (ha : ft_P a) (hb : ft_P b) : FP.dcmp a b = some .eq ↔ ft_z a = ft_z b := by
  rw [ft_cmp ha hb, Option.some.injEq, FP.Core.compare_eq_iff]
  omega
/-- the smaller less the larger: a sign, and no more than the larger -/
theorem ft_subS {a b : UInt64} {n : Nat} (ha : ft_P a) (hb : ft_P b) (hlt : ft_z a < ft_z b) (hn : ft_R n) (h : ft_z b - ft_z a ≤ n) :
    ∃ c q, FP.Core.val64 (FP.dsub a b) = .fin true c q ∧ FP.Core.zmag FP.Core.b64 (.fin true c q) ≤ n ∧ 0 < FP.Core.zmag FP.Core.b64 (.fin true c q) := by
  obtain ⟨c, q, ea⟩ := ha
  obtain ⟨d, r, eb⟩ := hb
  unfold ft_z at h hlt
  have hv : FP.Core.val64 (FP.dsub a b) = _ := FP.Core.val64_dsub a b
  rw [ea, eb] at h hlt hv
  have hz : FP.Core.zmag FP.Core.b64 (.fin true d r) = FP.Core.zmag FP.Core.b64 (.fin false d r) := rfl
  rw [show FP.Core.negate (.fin false d r) = .fin true d r from rfl] at hv
  obtain ⟨sg, k, e, p1, p2, p3⟩ := FP.Core.sum_units (ft_fit ea) (FP.Core.negate_fits (ft_fit eb))
  have p1 : FP.Core.exactSum (.fin false c q) (.fin true d r) = .fin sg k e := p1
  have p3 : FP.Core.signed sg (FP.Core.inUnits k e FP.Core.b64.qmin) = FP.Core.zval FP.Core.b64 (.fin false c q) + FP.Core.zval FP.Core.b64 (.fin true d r) := p3
  rw [ft_zvF, ft_zvT, hz] at p3
  have hsg : sg = true := by
    cases sg with
    | true => rfl
    | false => simp [FP.Core.signed] at p3; omega
  subst hsg
  have p4 : (FP.Core.inUnits k e FP.Core.b64.qmin : Int) = (FP.Core.zmag FP.Core.b64 (.fin false d r) : Int) - (FP.Core.zmag FP.Core.b64 (.fin false c q) : Int) := by
    simp [FP.Core.signed] at p3
    omega
  rw [p1] at hv
  obtain ⟨c', q', r1, r2⟩ := ft_round1 (s := true) (A := k) (e := e) hn p2 (by omega)
  have h1 : FP.Core.fits FP.Core.b64 (.fin false 1 FP.Core.b64.qmin) := ⟨by decide, Int.le_refl _, by decide, Or.inl rfl⟩
  have h1z : FP.Core.zmag FP.Core.b64 (.fin false 1 FP.Core.b64.qmin) = 1 := by
    show 1 * 2 ^ (FP.Core.b64.qmin - FP.Core.b64.qmin).toNat = 1
    rw [Int.sub_self]; rfl
  have g := ft_round1_ge (s := true) (A := k) (e := e) h1 p2 (by rw [h1z]; omega)
  rw [r1, h1z] at g
  exact ⟨c', q', by rw [hv, r1], r2, by omega⟩
theorem ft_RS {s : Bool} {c : Nat} {q : Int} (h : FP.Core.fits FP.Core.b64 (.fin s c q)) : ft_R (FP.Core.zmag FP.Core.b64 (.fin s c q)) := ⟨c, q, h, rfl⟩
theorem ft_mulS {s : Bool} {c d : Nat} {q r : Int} {n : Nat} (fa : FP.Core.fits FP.Core.b64 (.fin s c q)) (fb : FP.Core.fits FP.Core.b64 (.fin false d r)) (hn : ft_R n) (h : FP.Core.zmag FP.Core.b64 (.fin s c q) * FP.Core.zmag FP.Core.b64 (.fin false d r) ≤ n * FP.Core.one64) :
    ∃ c' q', FP.Core.round FP.Core.b64 (FP.Core.exactProduct (.fin s c q) (.fin false d r)) = .fin s c' q' ∧ FP.Core.zmag FP.Core.b64 (.fin s c' q') ≤ n := by
  obtain ⟨p1, p2, p3⟩ := FP.Core.product_units fa fb
  have hq := FP.Core.qmin_b64
  have hs : (s != false) = s := by cases s <;> rfl
  rw [p1, hs]
  refine ft_round (s := s) (A := c * d) (B := 1) (e := q + r) (e0 := 2 * FP.Core.b64.qmin) (by decide) hn (by omega) p2 ?_
  rw [p3, Nat.mul_one, show FP.Core.b64.qmin - 2 * FP.Core.b64.qmin = -FP.Core.b64.qmin by omega, ← ft_one_eq]
  exact h
/-- a number without sign and one with a sign that is no greater -/
theorem ft_addS {a b : UInt64} {c : Nat} {q : Int} {n : Nat} (ha : ft_P a) (eb : FP.Core.val64 b = .fin true c q) (hle : FP.Core.zmag FP.Core.b64 (.fin true c q) ≤ ft_z a) (hn : ft_R n) (h : ft_z a ≤ n) :
    ft_P (FP.dadd a b) ∧ ft_z (FP.dadd a b) ≤ n := by
  obtain ⟨d, r, ea⟩ := ha
  unfold ft_z at h hle ⊢
  have hv : FP.Core.val64 (FP.dadd a b) = _ := FP.Core.val64_dadd a b
  rw [ea] at h hle
  rw [ea, eb] at hv
  obtain ⟨k, e, p1, p2, p3⟩ := ft_sum (ft_fit ea) (ft_fit eb) rfl (by rw [ft_zvF, ft_zvT]; omega)
  rw [ft_zvF, ft_zvT] at p3
  rw [p1] at hv
  obtain ⟨c', q', r1, r2⟩ := ft_round1 (s := false) (A := k) (e := e) hn p2 (by omega)
  exact ⟨⟨c', q', by rw [hv, r1]⟩, by rw [hv, r1]; exact r2⟩
/-- a whole number that isn't below zero -/
theorem ft_i2d {k : Int32} (h : 0 ≤ k.toInt) : ft_P (FP.i2d k) ∧ ft_z (FP.i2d k) = k.toInt.toNat * FP.Core.one64 := by
  have e1 : FP.i2d k = FP.Core.l2d k.toInt64 := FP.Core.i2d_l2d k
  obtain ⟨c, q, e2⟩ := FP.Core.l2d_shape k.toInt64
  have e3 : k.toInt64.toInt = k.toInt := Int32.toInt_toInt64 k
  have hs : decide (k.toInt64.toInt < 0) = false := by rw [e3]; exact decide_eq_false (by omega)
  rw [hs, ← e1] at e2
  have hP : ft_P (FP.i2d k) := ⟨c, q, e2⟩
  refine ⟨hP, ?_⟩
  have h1 := FP.Core.DInt_zval (FP.Core.i2d_int k)
  have h2 : FP.Core.zval FP.Core.b64 (FP.Core.val64 (FP.i2d k)) = (ft_z (FP.i2d k) : Int) := hP.zv
  have h3 : (ft_z (FP.i2d k) : Int) = k.toInt * (FP.Core.one64 : Int) := h2.symm.trans h1
  have h4 : ((k.toInt.toNat * FP.Core.one64 : Nat) : Int) = k.toInt * (FP.Core.one64 : Int) := by
    rw [Int.natCast_mul, Int.toNat_of_nonneg h]
  omega
/-- a second's heating towards d in k seconds -/
theorem ft_heat {T d : UInt64} {k : Int32} {n : Nat} (hT : ft_P T) (hd : ft_P d) (hk : 0 < k.toInt) (hn : ft_R n) (hTn : ft_z T ≤ n) (hdn : ft_z d + ft_z d ≤ n) :
    vf_n64 (FP.dsub d T) ∧ vf_n64 (FP.ddiv (FP.dsub d T) (FP.i2d k)) ∧ ft_P (FP.dadd T (FP.ddiv (FP.dsub d T) (FP.i2d k))) ∧ ft_z (FP.dadd T (FP.ddiv (FP.dsub d T) (FP.i2d k))) ≤ n := by
  obtain ⟨hK, hKz⟩ := ft_i2d (k := k) (by omega)
  have hone := ft_one_pos
  have hK1 : FP.Core.one64 ≤ ft_z (FP.i2d k) := by rw [hKz]; exact Nat.le_mul_of_pos_left _ (by omega)
  rcases Nat.lt_or_ge (ft_z d) (ft_z T) with hlt | hge
  · obtain ⟨c, q, eu, uz, -⟩ := ft_subS hd hT hlt hT.R (Nat.sub_le _ _)
    obtain ⟨ck, qk, ek⟩ := hK
    have hKz' : ft_z (FP.i2d k) = FP.Core.zmag FP.Core.b64 (.fin false ck qk) := by unfold ft_z; rw [ek]
    rw [hKz'] at hK1
    obtain ⟨c2, q2, ev, vz⟩ := ft_div_fin (ft_fit eu) (ft_fit ek) (by omega) (ft_RS (ft_fit eu)) (Nat.mul_le_mul_left _ hK1)
    have hv : FP.Core.val64 (FP.ddiv (FP.dsub d T) (FP.i2d k)) = .fin true c2 q2 := by
      have h1 : FP.Core.val64 (FP.ddiv (FP.dsub d T) (FP.i2d k)) = _ := FP.Core.val64_ddiv _ _
      rw [h1, eu, ek, ev]
    obtain ⟨w1, w2⟩ := ft_addS hT hv (Nat.le_trans vz uz) hn hTn
    exact ⟨ft_fn ⟨_, _, _, eu⟩, ft_fn ⟨_, _, _, hv⟩, w1, w2⟩
  · obtain ⟨u1, u2⟩ := ft_sub_le hd hT hge
    obtain ⟨v1, v2⟩ := ft_div u1 hK (by omega) u1.R (Nat.mul_le_mul_left _ hK1)
    obtain ⟨w1, w2, -⟩ := ft_add hT v1 hn (by omega)
    exact ⟨u1.n, v1.n, w1, w2⟩
theorem ft_c025 : FP.Core.val64 0x3FD0000000000000 = .fin false 4503599627370496 (-54) := by decide +kernel
theorem ft_c1 : FP.Core.val64 0x3FF0000000000000 = .fin false 4503599627370496 (-52) := by decide +kernel
theorem ft_c1P : ft_P 0x3FF0000000000000 := ⟨_, _, ft_c1⟩
theorem ft_c1z : ft_z 0x3FF0000000000000 = FP.Core.one64 := by decide +kernel
theorem ft_0P : ft_P 0 := ⟨_, _, FP.Core.val64_zero⟩
theorem ft_0z : ft_z 0 = 0 := by decide +kernel
theorem ft_c55P : ft_P 0x4016000000000000 := by
  have : FP.Core.val64 0x4016000000000000 = .fin false 6192449487634432 (-50) := by decide +kernel
  exact ⟨_, _, this⟩
theorem ft_c025P : ft_P 0x3FD0000000000000 := ⟨_, _, ft_c025⟩
theorem ft_c025z : ft_z 0x3FD0000000000000 ≤ FP.Core.one64 := by decide +kernel
/-- how the acidity fits -/
theorem ft_fitness {A : UInt64} (hA : ft_P A) :
    vf_n64 (FP.dsub A 0x4016000000000000) ∧ vf_n64 (FP.dmul (FP.dsub A 0x4016000000000000) (FP.dsub A 0x4016000000000000)) ∧
    vf_n64 (FP.dmul (FP.dmul (FP.dsub A 0x4016000000000000) (FP.dsub A 0x4016000000000000)) 0x3FD0000000000000) ∧
    vf_n64 (FP.dsub 0x3FF0000000000000 (FP.dmul (FP.dmul (FP.dsub A 0x4016000000000000) (FP.dsub A 0x4016000000000000)) 0x3FD0000000000000)) ∧
    (FP.dcmp (FP.dsub 0x3FF0000000000000 (FP.dmul (FP.dmul (FP.dsub A 0x4016000000000000) (FP.dsub A 0x4016000000000000)) 0x3FD0000000000000)) 0 ≠ some .lt →
      ft_P (FP.dsub 0x3FF0000000000000 (FP.dmul (FP.dmul (FP.dsub A 0x4016000000000000) (FP.dsub A 0x4016000000000000)) 0x3FD0000000000000)) ∧
      ft_z (FP.dsub 0x3FF0000000000000 (FP.dmul (FP.dmul (FP.dsub A 0x4016000000000000) (FP.dsub A 0x4016000000000000)) 0x3FD0000000000000)) ≤ FP.Core.one64) := by
  have hu : ∃ s c q, FP.Core.val64 (FP.dsub A 0x4016000000000000) = .fin s c q := by
    rcases Nat.lt_or_ge (ft_z A) (ft_z 0x4016000000000000) with h | h
    · obtain ⟨c, q, e, -⟩ := ft_subS hA ft_c55P h ft_c55P.R (Nat.sub_le _ _)
      exact ⟨_, c, q, e⟩
    · exact (ft_sub_le hA ft_c55P h).1.fin
  refine ⟨ft_fn hu, ?_⟩
  generalize FP.dsub A 0x4016000000000000 = u at hu ⊢
  obtain ⟨s, c, q, eu⟩ := hu
  have hm : ft_P (FP.dmul u u) ∨ FP.Core.val64 (FP.dmul u u) = .inf false := by
    have h1 : FP.Core.val64 (FP.dmul u u) = _ := FP.Core.val64_dmul u u
    rw [eu] at h1
    have hs : (s != s) = false := by cases s <;> rfl
    have h2 : FP.Core.round FP.Core.b64 (FP.Core.exactProduct (.fin s c q) (.fin s c q)) = FP.Core.roundRatio FP.Core.b64 false (c * c) 1 (q + q) := by
      show FP.Core.roundRatio FP.Core.b64 (s != s) (c * c) 1 (q + q) = _
      rw [hs]
    rw [h2] at h1
    rcases FP.Core.roundRatio_cases FP.Core.b64 false (c * c) 1 (q + q) with ⟨c', q', h⟩ | h
    · exact Or.inl ⟨c', q', h1.trans h⟩
    · exact Or.inr (h1.trans h)
  have hmn : vf_n64 (FP.dmul u u) := by
    rcases hm with h | h
    · exact h.n
    · exact ft_nn (by rw [h]; intro h9; cases h9)
  refine ⟨hmn, ?_⟩
  generalize FP.dmul u u = w at hm hmn ⊢
  have hq : ft_P (FP.dmul w 0x3FD0000000000000) ∨ FP.Core.val64 (FP.dmul w 0x3FD0000000000000) = .inf false := by
    rcases hm with h | h
    · exact Or.inl (ft_mul_le h ft_c025P ft_c025z).1
    · right
      have h1 : FP.Core.val64 (FP.dmul w 0x3FD0000000000000) = _ := FP.Core.val64_dmul _ _
      rw [h, ft_c025] at h1
      exact h1
  have hqn : vf_n64 (FP.dmul w 0x3FD0000000000000) := by
    rcases hq with h | h
    · exact h.n
    · exact ft_nn (by rw [h]; intro h9; cases h9)
  refine ⟨hqn, ?_⟩
  generalize FP.dmul w 0x3FD0000000000000 = z at hq hqn ⊢
  rcases hq with h | h
  · rcases Nat.lt_or_ge (ft_z 0x3FF0000000000000) (ft_z z) with g | g
    · obtain ⟨c, q, e, -, h0⟩ := ft_subS ft_c1P h g h.R (Nat.sub_le _ _)
      refine ⟨ft_fn ⟨_, c, q, e⟩, fun hne => absurd ?_ hne⟩
      have h2 : FP.Core.val64 (FP.dsub 0x3FF0000000000000 z) ≠ .nan := by rw [e]; intro h9; cases h9
      refine FP.Core.dcmp_lt.mpr ⟨h2, (by rw [FP.Core.val64_zero]; intro h9; cases h9), ?_⟩
      rw [e, ft_zvT, FP.Core.zval64_zero]
      omega
    · obtain ⟨a1, a2⟩ := ft_sub_le ft_c1P h g
      exact ⟨a1.n, fun _ => ⟨a1, by rw [← ft_c1z]; exact a2⟩⟩
  · have h1 : FP.Core.val64 (FP.dsub 0x3FF0000000000000 z) = .inf true := by
      have h2 : FP.Core.val64 (FP.dsub 0x3FF0000000000000 z) = _ := FP.Core.val64_dsub _ _
      rw [h, ft_c1] at h2
      exact h2
    refine ⟨ft_nn (by rw [h1]; intro h9; cases h9), fun hne => absurd ?_ hne⟩
    show FP.Core.order (FP.Core.val64 _) (FP.Core.val64 0) = _
    rw [h1, FP.Core.val64_zero]
    rfl
theorem ft_ac1 (a b c d : Nat) : (a * b) * (c * d) = a * c * b * d := by ac_rfl
theorem ft_ac2 (a b c : Nat) : (a * b) * c = c * a * b := by ac_rfl
theorem ft_ac3 (a b c : Nat) : (a * b) * c = b * c * a := by ac_rfl
/-- a 4,096th -/
def ft_w : Nat := 2 ^ 1062
theorem ft_w4096 : 4096 * ft_w = FP.Core.one64 := by decide +kernel
theorem ft_wR {m : Nat} (h : m < 2 ^ 53) : ft_R (m * ft_w) := ft_R_of h (by decide)
/-- a row's value between two marks -/
theorem ft_row {u v T p d : UInt64} {U V N : Nat} (hu : ft_P u) (huz : ft_z u = U * ft_w) (hv : ft_P v) (hvz : ft_z v = V * ft_w) (hU : U ≤ 4096) (hV : V ≤ 4096)
    (hT : ft_P T) (hp : ft_P p) (hd : ft_P d) (hdz : ft_z d = N * FP.Core.one64) (hN : 0 < N) (hN2 : N ≤ 1000) (h1 : ft_z p ≤ ft_z T) (h2 : ft_z T ≤ ft_z p + ft_z d) :
    vf_n64 (FP.dsub v u) ∧ vf_n64 (FP.dsub T p) ∧ vf_n64 (FP.dmul (FP.dsub v u) (FP.dsub T p)) ∧ vf_n64 (FP.ddiv (FP.dmul (FP.dsub v u) (FP.dsub T p)) d) ∧
    ft_P (FP.dadd u (FP.ddiv (FP.dmul (FP.dsub v u) (FP.dsub T p)) d)) ∧ ft_z (FP.dadd u (FP.ddiv (FP.dmul (FP.dsub v u) (FP.dsub T p)) d)) ≤ FP.Core.one64 := by
  have hone := ft_one_pos
  have hw : 0 < ft_w := Nat.two_pow_pos _
  obtain ⟨t1, t2⟩ := ft_sub hT hp h1 hd.R (by omega)
  have hd0 : 0 < ft_z d := by rw [hdz]; exact Nat.mul_pos hN hone
  have hu1 : ft_z u ≤ FP.Core.one64 := by rw [huz, ← ft_w4096]; exact Nat.mul_le_mul_right _ hU
  have hv1 : ft_z v ≤ FP.Core.one64 := by rw [hvz, ← ft_w4096]; exact Nat.mul_le_mul_right _ hV
  rcases Nat.lt_or_ge (ft_z v) (ft_z u) with hlt | hge
  · have hVU : V < U := by
      rw [huz, hvz] at hlt
      exact Nat.lt_of_mul_lt_mul_right hlt
    have hD : ft_z u - ft_z v = (U - V) * ft_w := by rw [huz, hvz, Nat.sub_mul]
    obtain ⟨c, q, e1, e2, -⟩ := ft_subS hv hu hlt (ft_wR (m := U - V) (by omega)) (Nat.le_of_eq hD)
    obtain ⟨ct, qt, et⟩ := id t1
    have etz : ft_z (FP.dsub T p) = FP.Core.zmag FP.Core.b64 (.fin false ct qt) := by unfold ft_z; rw [et]
    have hb1 : FP.Core.zmag FP.Core.b64 (.fin true c q) * FP.Core.zmag FP.Core.b64 (.fin false ct qt) ≤ (U - V) * N * ft_w * FP.Core.one64 := by
      rw [← etz]
      calc _ ≤ ((U - V) * ft_w) * (N * FP.Core.one64) := Nat.mul_le_mul e2 (by rw [← hdz]; exact t2)
        _ = _ := ft_ac1 _ _ _ _
    obtain ⟨c2, q2, m1, m2⟩ := ft_mulS (ft_fit e1) (ft_fit et) (ft_wR (m := (U - V) * N) (by
      have : (U - V) * N ≤ 4096 * 1000 := Nat.mul_le_mul (by omega) hN2
      omega)) hb1
    have hm : FP.Core.val64 (FP.dmul (FP.dsub v u) (FP.dsub T p)) = .fin true c2 q2 := by
      have h9 : FP.Core.val64 (FP.dmul (FP.dsub v u) (FP.dsub T p)) = _ := FP.Core.val64_dmul _ _
      rw [h9, e1, et, m1]
    obtain ⟨cd, qd, ed⟩ := id hd
    have edz : ft_z d = FP.Core.zmag FP.Core.b64 (.fin false cd qd) := by unfold ft_z; rw [ed]
    obtain ⟨c3, q3, n1, n2⟩ := ft_div_fin (ft_fit hm) (ft_fit ed) (by omega) (ft_wR (m := U - V) (by omega)) (by
      rw [← edz, hdz]
      calc _ ≤ (U - V) * N * ft_w * FP.Core.one64 := Nat.mul_le_mul_right _ m2
        _ = _ := (ft_ac1 _ _ _ _).symm)
    have hq : FP.Core.val64 (FP.ddiv (FP.dmul (FP.dsub v u) (FP.dsub T p)) d) = .fin true c3 q3 := by
      have h9 : FP.Core.val64 (FP.ddiv (FP.dmul (FP.dsub v u) (FP.dsub T p)) d) = _ := FP.Core.val64_ddiv _ _
      rw [h9, hm, ed, n1]
    obtain ⟨r1, r2⟩ := ft_addS hu hq (by omega) hu.R (Nat.le_refl _)
    exact ⟨ft_fn ⟨_, _, _, e1⟩, t1.n, ft_fn ⟨_, _, _, hm⟩, ft_fn ⟨_, _, _, hq⟩, r1, by omega⟩
  · have hVU : U ≤ V := by
      rw [huz, hvz] at hge
      exact Nat.le_of_mul_le_mul_right hge hw
    have hD : ft_z v - ft_z u = (V - U) * ft_w := by rw [huz, hvz, Nat.sub_mul]
    obtain ⟨e1, e2⟩ := ft_sub hv hu hge (ft_wR (m := V - U) (by omega)) (Nat.le_of_eq hD)
    obtain ⟨m1, m2⟩ := ft_mul e1 t1 (ft_wR (m := (V - U) * N) (by
      have : (V - U) * N ≤ 4096 * 1000 := Nat.mul_le_mul (by omega) hN2
      omega)) (by
      calc _ ≤ ((V - U) * ft_w) * (N * FP.Core.one64) := Nat.mul_le_mul e2 (by rw [← hdz]; exact t2)
        _ = _ := ft_ac1 _ _ _ _)
    obtain ⟨n1, n2⟩ := ft_div m1 hd hd0 (ft_wR (m := V - U) (by omega)) (by
      rw [hdz]
      calc _ ≤ (V - U) * N * ft_w * FP.Core.one64 := Nat.mul_le_mul_right _ m2
        _ = _ := (ft_ac1 _ _ _ _).symm)
    obtain ⟨r1, r2, -⟩ := ft_add hu n1 hv.R (by omega)
    exact ⟨e1.n, t1.n, m1.n, n1.n, r1, by omega⟩
/-- the mean weighed by water -/
theorem ft_mix {T W d l : UInt64} {k e : Nat} (hT : ft_P T) (hW : ft_P W) (hd : ft_P d) (hl : ft_P l) (hTn : ft_z T ≤ 2 ^ k * FP.Core.one64) (hdn : ft_z d ≤ 2 ^ k * FP.Core.one64)
    (hs : ft_P (FP.dadd W l)) (hsW : ft_z W ≤ ft_z (FP.dadd W l)) (hsl : ft_z l ≤ ft_z (FP.dadd W l)) (hs0 : 0 < ft_z (FP.dadd W l)) (hse : ft_z (FP.dadd W l) ≤ 2 ^ e) (hke : e + (k + 1) ≤ 2045) (hk : k + 1 ≤ 971) :
    vf_n64 (FP.dmul T W) ∧ vf_n64 (FP.dmul d l) ∧ vf_n64 (FP.dadd (FP.dmul T W) (FP.dmul d l)) ∧ vf_n64 (FP.ddiv (FP.dadd (FP.dmul T W) (FP.dmul d l)) (FP.dadd W l)) ∧
    ft_P (FP.ddiv (FP.dadd (FP.dmul T W) (FP.dmul d l)) (FP.dadd W l)) ∧ ft_z (FP.ddiv (FP.dadd (FP.dmul T W) (FP.dmul d l)) (FP.dadd W l)) ≤ 2 ^ (k + 1) * FP.Core.one64 := by
  generalize FP.dadd W l = s at *
  have rW : ft_R (ft_z W * 2 ^ k) := ft_R_shift hW.R (Nat.le_trans hsW hse) (by omega)
  have rl : ft_R (ft_z l * 2 ^ k) := ft_R_shift hl.R (Nat.le_trans hsl hse) (by omega)
  obtain ⟨a1, a2⟩ := ft_mul hT hW rW (by
    calc ft_z T * ft_z W ≤ (2 ^ k * FP.Core.one64) * ft_z W := Nat.mul_le_mul_right _ hTn
      _ = _ := ft_ac2 _ _ _)
  obtain ⟨b1, b2⟩ := ft_mul hd hl rl (by
    calc ft_z d * ft_z l ≤ (2 ^ k * FP.Core.one64) * ft_z l := Nat.mul_le_mul_right _ hdn
      _ = _ := ft_ac2 _ _ _)
  have rs : ft_R (ft_z s * 2 ^ (k + 1)) := ft_R_shift hs.R hse hke
  obtain ⟨c1, c2, -⟩ := ft_add a1 b1 rs (by
    have h1 : ft_z W * 2 ^ k ≤ ft_z s * 2 ^ k := Nat.mul_le_mul_right _ hsW
    have h2 : ft_z l * 2 ^ k ≤ ft_z s * 2 ^ k := Nat.mul_le_mul_right _ hsl
    rw [Nat.pow_succ, ← Nat.mul_assoc]
    omega)
  obtain ⟨d1, d2⟩ := ft_div c1 hs hs0 (n := 2 ^ (k + 1) * FP.Core.one64) (by
    have := ft_R_one (m := 1) (e := k + 1) (by decide) hk
    rwa [Nat.one_mul] at this) (by
    calc ft_z (FP.dadd (FP.dmul T W) (FP.dmul d l)) * FP.Core.one64 ≤ (ft_z s * 2 ^ (k + 1)) * FP.Core.one64 := Nat.mul_le_mul_right _ c2
      _ = _ := ft_ac3 _ _ _)
  exact ⟨a1.n, b1.n, c1.n, d1.n, d1, d2⟩
