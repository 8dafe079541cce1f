section
/-! Doubles that are finite and bear no sign, measured in units of the least one. -/
/-- finite, no sign -/
def ft_P (a : UInt64) : Prop := ∃ c q, FP.Core.val64 a = .fin false c q
/-- its magnitude in units -/
def ft_z (a : UInt64) : Nat := FP.Core.zmag FP.Core.b64 (FP.Core.val64 a)
/-- so many units are a number of the format -/
def ft_R (n : Nat) : Prop := ∃ c q, FP.Core.fits FP.Core.b64 (.fin false c q) ∧ FP.Core.zmag FP.Core.b64 (.fin false c q) = n
theorem ft_qmax : FP.Core.b64.qmax = 971 := by decide
theorem ft_qm : (-FP.Core.b64.qmin).toNat = 1074 := by decide
theorem ft_one_eq : FP.Core.one64 = 2 ^ (-FP.Core.b64.qmin).toNat := FP.Core.pow_qmin64.symm
theorem ft_one_pos : 0 < FP.Core.one64 := FP.Core.one64_pos
theorem ft_fit {a : UInt64} {s : Bool} {c : Nat} {q : Int} (h : FP.Core.val64 a = .fin s c q) : FP.Core.fits FP.Core.b64 (.fin s c q) := h ▸ FP.Core.val64_fits a
theorem ft_P.R {a : UInt64} (h : ft_P a) : ft_R (ft_z a) := by
  obtain ⟨c, q, e⟩ := h
  exact ⟨c, q, ft_fit e, by unfold ft_z; rw [e]⟩
theorem ft_R_of {m e : Nat} (hm : m < 2 ^ 53) (he : e ≤ 2045) : ft_R (m * 2 ^ e) := by
  have hq := FP.Core.qmin_b64
  have hx := ft_qmax
  obtain ⟨c', q', h1, h2⟩ := FP.Core.round_exact FP.Core.good_b64 false (c := m) (q := FP.Core.b64.qmin + (e : Int)) hm (by omega) (by omega)
  refine ⟨c', q', h1 ▸ FP.Core.round_fits FP.Core.good_b64 _, ?_⟩
  show FP.Core.inUnits c' q' FP.Core.b64.qmin = _
  rw [h2]
  unfold FP.Core.inUnits
  rw [show (FP.Core.b64.qmin + (e : Int) - FP.Core.b64.qmin).toNat = e by omega]
theorem ft_R_one {m e : Nat} (hm : m < 2 ^ 53) (he : e ≤ 971) : ft_R (m * 2 ^ e * FP.Core.one64) := by
  rw [ft_one_eq, Nat.mul_assoc, ← Nat.pow_add]
  have := ft_qm
  exact ft_R_of hm (by omega)
theorem ft_R_shift {n k e : Nat} (h : ft_R n) (hb : n ≤ 2 ^ e) (he : e + k ≤ 2045) : ft_R (n * 2 ^ k) := by
  obtain ⟨c, q, hf, rfl⟩ := h
  show ft_R (FP.Core.inUnits c q FP.Core.b64.qmin * 2 ^ k)
  have hb : FP.Core.inUnits c q FP.Core.b64.qmin ≤ 2 ^ e := hb
  unfold FP.Core.inUnits at hb ⊢
  rw [Nat.mul_assoc, ← Nat.pow_add]
  by_cases h0 : c = 0
  · subst h0
    rw [Nat.zero_mul]
    have := ft_R_of (m := 0) (e := 0) (by decide) (by decide)
    rwa [Nat.zero_mul] at this
  · refine ft_R_of hf.1 ?_
    have h1 : 2 ^ (q - FP.Core.b64.qmin).toNat ≤ 2 ^ e := Nat.le_trans (Nat.le_mul_of_pos_left _ (Nat.pos_of_ne_zero h0)) hb
    have h2 := (Nat.pow_le_pow_iff_right (by decide : 1 < 2)).mp h1
    omega
/-- rounding below a number of the format -/
theorem ft_round {s : Bool} {A B : Nat} {e e0 : Int} {n : Nat} (hB : 0 < B) (hn : ft_R n) (h0 : e0 ≤ FP.Core.b64.qmin) (h0e : e0 ≤ e)
    (h : FP.Core.inUnits A e e0 ≤ n * 2 ^ (FP.Core.b64.qmin - e0).toNat * B) :
    ∃ c q, FP.Core.roundRatio FP.Core.b64 s A B e = .fin s c q ∧ FP.Core.zmag FP.Core.b64 (.fin s c q) ≤ n := by
  obtain ⟨c, q, fv, rfl⟩ := hn
  have hz := FP.Core.zmag_roundRatio_le FP.Core.good_b64 (s := s) hB fv (by intro h; cases h) h0 h0e h
  rcases FP.Core.roundRatio_cases FP.Core.b64 s A B e with ⟨c', q', hR⟩ | hR
  · rw [hR] at hz
    exact ⟨c', q', hR, hz⟩
  · rw [hR] at hz
    exact absurd hz (Nat.not_le_of_lt (FP.Core.zmag_lt_top FP.Core.good_b64 fv))
theorem ft_zvF (c : Nat) (q : Int) : FP.Core.zval FP.Core.b64 (.fin false c q) = (FP.Core.zmag FP.Core.b64 (.fin false c q) : Int) := by
  simp [FP.Core.zval, FP.Core.sgn, FP.Core.signed]
theorem ft_zvT (c : Nat) (q : Int) : FP.Core.zval FP.Core.b64 (.fin true c q) = -(FP.Core.zmag FP.Core.b64 (.fin true c q) : Int) := by
  simp [FP.Core.zval, FP.Core.sgn, FP.Core.signed]
/-- a sum that isn't below zero has no sign -/
theorem ft_sum {s t : Bool} {c d : Nat} {q r : Int} (fx : FP.Core.fits FP.Core.b64 (.fin s c q)) (fy : FP.Core.fits FP.Core.b64 (.fin t d r)) (hst : (s && t) = false)
    (h : 0 ≤ FP.Core.zval FP.Core.b64 (.fin s c q) + FP.Core.zval FP.Core.b64 (.fin t d r)) :
    ∃ n e, FP.Core.exactSum (.fin s c q) (.fin t d r) = .fin false n e ∧ FP.Core.b64.qmin ≤ e ∧
      (FP.Core.inUnits n e FP.Core.b64.qmin : Int) = FP.Core.zval FP.Core.b64 (.fin s c q) + FP.Core.zval FP.Core.b64 (.fin t d r) := by
  obtain ⟨sg, n, e, p1, p2, p3⟩ := FP.Core.sum_units fx fy
  have hsg : sg = false := by
    have p1' : (FP.Core.Datum.fin (FP.Core.sumSign s t (FP.Core.sumUnits s c q t d r (min q r))) (FP.Core.sumUnits s c q t d r (min q r)).natAbs (min q r)) = .fin sg n e := p1
    injection p1' with e1 e2 e3
    by_cases hU : FP.Core.sumUnits s c q t d r (min q r) = 0
    · rw [← e1]
      unfold FP.Core.sumSign
      rw [if_pos hU]
      exact hst
    · cases sg with
      | false => rfl
      | true =>
        exfalso
        have h1 : FP.Core.inUnits n e FP.Core.b64.qmin = 0 := by
          simp only [FP.Core.signed, if_true] at p3
          omega
        unfold FP.Core.inUnits at h1
        rcases Nat.mul_eq_zero.mp h1 with h2 | h2
        · exact hU (Int.natAbs_eq_zero.mp (e2.trans h2))
        · exact absurd h2 (Nat.ne_of_gt (Nat.two_pow_pos _))
  subst hsg
  refine ⟨n, e, p1, p2, ?_⟩
  simpa [FP.Core.signed] using p3
theorem ft_round1 {s : Bool} {A n : Nat} {e : Int} (hn : ft_R n) (h0e : FP.Core.b64.qmin ≤ e) (h : FP.Core.inUnits A e FP.Core.b64.qmin ≤ n) :
    ∃ c q, FP.Core.round FP.Core.b64 (.fin s A e) = .fin s c q ∧ FP.Core.zmag FP.Core.b64 (.fin s c q) ≤ n := by
  refine ft_round (B := 1) (by decide) hn (Int.le_refl _) h0e ?_
  rw [Int.sub_self, Int.toNat_zero, Nat.pow_zero, Nat.mul_one, Nat.mul_one]
  exact h
theorem ft_round1_ge {s t : Bool} {A c : Nat} {e q : Int} (fv : FP.Core.fits FP.Core.b64 (.fin t c q)) (h0e : FP.Core.b64.qmin ≤ e) (h : FP.Core.zmag FP.Core.b64 (.fin t c q) ≤ FP.Core.inUnits A e FP.Core.b64.qmin) :
    FP.Core.zmag FP.Core.b64 (.fin t c q) ≤ FP.Core.zmag FP.Core.b64 (FP.Core.round FP.Core.b64 (.fin s A e)) := by
  refine FP.Core.zmag_roundRatio_ge (B := 1) FP.Core.good_b64 (by decide) fv (Int.le_refl _) h0e ?_
  rw [Int.sub_self, Int.toNat_zero, Nat.pow_zero, Nat.mul_one, Nat.mul_one]
  exact h
theorem ft_add {a b : UInt64} {n : Nat} (ha : ft_P a) (hb : ft_P b) (hn : ft_R n) (h : ft_z a + ft_z b ≤ n) :
    ft_P (FP.dadd a b) ∧ ft_z (FP.dadd a b) ≤ n ∧ ft_z a ≤ ft_z (FP.dadd a b) ∧ ft_z b ≤ ft_z (FP.dadd a b) := by
  obtain ⟨c, q, ea⟩ := ha
  obtain ⟨d, r, eb⟩ := hb
  unfold ft_z at h ⊢
  have hv : FP.Core.val64 (FP.dadd a b) = _ := FP.Core.val64_dadd a b
  rw [ea, eb] at h hv
  obtain ⟨k, e, p1, p2, p3⟩ := ft_sum (ft_fit ea) (ft_fit eb) rfl (by rw [ft_zvF, ft_zvF]; omega)
  rw [ft_zvF, ft_zvF] at p3
  rw [p1] at hv
  obtain ⟨c', q', r1, r2⟩ := ft_round1 (s := false) (A := k) (e := e) hn p2 (by omega)
  have g1 := ft_round1_ge (s := false) (A := k) (e := e) (ft_fit ea) p2 (by omega)
  have g2 := ft_round1_ge (s := false) (A := k) (e := e) (ft_fit eb) p2 (by omega)
  rw [← hv] at g1 g2
  rw [ea, eb]
  refine ⟨⟨c', q', by rw [hv, r1]⟩, by rw [hv, r1]; exact r2, g1, g2⟩
theorem ft_sub {a b : UInt64} {n : Nat} (ha : ft_P a) (hb : ft_P b) (hle : ft_z b ≤ ft_z a) (hn : ft_R n) (h : ft_z a - ft_z b ≤ n) :
    ft_P (FP.dsub a b) ∧ ft_z (FP.dsub a b) ≤ n := by
  obtain ⟨c, q, ea⟩ := ha
  obtain ⟨d, r, eb⟩ := hb
  unfold ft_z at h hle ⊢
  have hv : FP.Core.val64 (FP.dsub a b) = _ := FP.Core.val64_dsub a b
  rw [ea, eb] at h hle hv
  have hz : FP.Core.zmag FP.Core.b64 (.fin true d r) = FP.Core.zmag FP.Core.b64 (.fin false d r) := rfl
  obtain ⟨k, e, p1, p2, p3⟩ := ft_sum (t := true) (ft_fit ea) (FP.Core.negate_fits (ft_fit eb)) rfl (by rw [ft_zvF, ft_zvT, hz]; omega)
  rw [ft_zvF, ft_zvT, hz] at p3
  rw [show FP.Core.negate (.fin false d r) = .fin true d r from rfl, p1] at hv
  obtain ⟨c', q', r1, r2⟩ := ft_round1 (s := false) (A := k) (e := e) hn p2 (by omega)
  exact ⟨⟨c', q', by rw [hv, r1]⟩, by rw [hv, r1]; exact r2⟩
theorem ft_sub_le {a b : UInt64} (ha : ft_P a) (hb : ft_P b) (hle : ft_z b ≤ ft_z a) : ft_P (FP.dsub a b) ∧ ft_z (FP.dsub a b) ≤ ft_z a :=
  ft_sub ha hb hle ha.R (Nat.sub_le _ _)
theorem ft_mul {a b : UInt64} {n : Nat} (ha : ft_P a) (hb : ft_P b) (hn : ft_R n) (h : ft_z a * ft_z b ≤ n * FP.Core.one64) :
    ft_P (FP.dmul a b) ∧ ft_z (FP.dmul a b) ≤ n := by
  obtain ⟨c, q, ea⟩ := ha
  obtain ⟨d, r, eb⟩ := hb
  unfold ft_z at h ⊢
  have hv : FP.Core.val64 (FP.dmul a b) = _ := FP.Core.val64_dmul a b
  rw [ea, eb] at h hv
  obtain ⟨p1, p2, p3⟩ := FP.Core.product_units (ft_fit ea) (ft_fit eb)
  have hq := FP.Core.qmin_b64
  rw [p1] at hv
  obtain ⟨c', q', r1, r2⟩ := ft_round (s := false) (A := c * d) (B := 1) (e := q + r) (e0 := 2 * FP.Core.b64.qmin) (by decide) hn (by omega) p2 (by
    rw [p3, Nat.mul_one, show FP.Core.b64.qmin - 2 * FP.Core.b64.qmin = -FP.Core.b64.qmin by omega, ← ft_one_eq]
    exact h)
  have hv' : FP.Core.val64 (FP.dmul a b) = .fin false c' q' := hv.trans r1
  exact ⟨⟨c', q', hv'⟩, by rw [hv']; exact r2⟩
theorem ft_mul_le {a b : UInt64} (ha : ft_P a) (hb : ft_P b) (h : ft_z b ≤ FP.Core.one64) : ft_P (FP.dmul a b) ∧ ft_z (FP.dmul a b) ≤ ft_z a :=
  ft_mul ha hb ha.R (Nat.mul_le_mul_left _ h)
theorem ft_div_fin {s : Bool} {c d : Nat} {q r : Int} {n : Nat} (fa : FP.Core.fits FP.Core.b64 (.fin s c q)) (fb : FP.Core.fits FP.Core.b64 (.fin false d r)) (h0 : 0 < FP.Core.zmag FP.Core.b64 (.fin false d r)) (hn : ft_R n) (h : FP.Core.zmag FP.Core.b64 (.fin s c q) * FP.Core.one64 ≤ n * FP.Core.zmag FP.Core.b64 (.fin false d r)) :
    ∃ c' q', FP.Core.quotient FP.Core.b64 (.fin s c q) (.fin false d r) = .fin s c' q' ∧ FP.Core.zmag FP.Core.b64 (.fin s c' q') ≤ n := by
  have hq := FP.Core.qmin_b64
  have hd0 : d ≠ 0 := by
    rintro rfl
    have h1 : FP.Core.zmag FP.Core.b64 (.fin false 0 r) = 0 := Nat.zero_mul _
    omega
  have hx1 := fa.2.1
  have hy1 := fb.2.1
  have hs : (s != false) = s := by cases s <;> rfl
  simp only [FP.Core.quotient, if_neg hd0, hs]
  refine ft_round (e0 := 2 * FP.Core.b64.qmin - r) (by omega) hn (by omega) (by omega) ?_
  have e1 : FP.Core.inUnits c (q - r) (2 * FP.Core.b64.qmin - r) = FP.Core.zmag FP.Core.b64 (.fin s c q) * 2 ^ (-FP.Core.b64.qmin).toNat := by
    show c * _ = c * _ * _
    rw [Nat.mul_assoc, ← Nat.pow_add]; congr 2; omega
  have e2 : 2 ^ (FP.Core.b64.qmin - (2 * FP.Core.b64.qmin - r)).toNat * d = FP.Core.zmag FP.Core.b64 (.fin false d r) := by
    show _ = d * _
    rw [Nat.mul_comm]; congr 2; omega
  rw [e1, Nat.mul_assoc, e2, ← ft_one_eq]
  exact h
theorem ft_div {a b : UInt64} {n : Nat} (ha : ft_P a) (hb : ft_P b) (h0 : 0 < ft_z b) (hn : ft_R n) (h : ft_z a * FP.Core.one64 ≤ n * ft_z b) :
    ft_P (FP.ddiv a b) ∧ ft_z (FP.ddiv a b) ≤ n := by
  obtain ⟨c, q, ea⟩ := ha
  obtain ⟨d, r, eb⟩ := hb
  unfold ft_z at h h0 ⊢
  have hv : FP.Core.val64 (FP.ddiv a b) = _ := FP.Core.val64_ddiv a b
  rw [ea, eb] at h hv
  rw [eb] at h0
  obtain ⟨c', q', r1, r2⟩ := ft_div_fin (ft_fit ea) (ft_fit eb) h0 hn h
  exact ⟨⟨c', q', by rw [hv, r1]⟩, by rw [hv, r1]; exact r2⟩
theorem ft_nn {a : UInt64} (h : FP.Core.val64 a ≠ .nan) : vf_n64 a := by
  unfold vf_n64
  rw [UInt64.le_iff_toNat_le, FP.Core.mask_toNat]
  exact (FP.Core.ne_nan a).mp h
theorem ft_fn {a : UInt64} (h : FP.Core.DFin a) : vf_n64 a := ft_nn h.ne_nan
theorem ft_P.fin {a : UInt64} (h : ft_P a) : FP.Core.DFin a := by
  obtain ⟨c, q, e⟩ := h
  exact ⟨false, c, q, e⟩
theorem ft_P.n {a : UInt64} (h : ft_P a) : vf_n64 a := ft_fn h.fin
theorem ft_bn {a : UInt64} (h : FP.Core.dIsNaN a = false) : vf_n64 a := ft_nn ((FP.Core.notNaN_iff a).mp h)
theorem ft_P.zv {a : UInt64} (h : ft_P a) : FP.Core.zval FP.Core.b64 (FP.Core.val64 a) = (ft_z a : Int) := by
  obtain ⟨c, q, e⟩ := h
  unfold ft_z
  rw [e, ft_zvF]
/-- comparison of two such -/
theorem ft_cmp {a b : UInt64} (ha : ft_P a) (hb : ft_P b) : FP.dcmp a b = some (compare (ft_z a : Int) (ft_z b : Int)) := by
  have := FP.Core.dcmp_zval ha.fin.ne_nan hb.fin.ne_nan
  rw [ha.zv, hb.zv] at this
  exact this
theorem ft_lt {a b : UInt64} (ha : ft_P a) (hb : ft_P b) : FP.dcmp a b = some .lt ↔ ft_z a < ft_z b := by
  rw [ft_cmp ha hb, Option.some.injEq, FP.Core.compare_lt_iff]
  omega
theorem ft_gt {a b : UInt64} (ha : ft_P a) (hb : ft_P b) : FP.dcmp a b = some .gt ↔ ft_z b < ft_z a := by
  rw [ft_cmp ha hb, Option.some.injEq, FP.Core.compare_gt_iff]
  omega
theorem ft_eq {a b : UInt64} (ha : ft_P a) (hb : ft_P b) : FP.dcmp a b = some .eq ↔ ft_z a = ft_z b := by
  rw [ft_cmp ha hb, Option.some.injEq, FP.Core.compare_eq_iff]
  omega
/-- the smaller less the larger: a sign, and no more than the larger -/
theorem ft_subS {a b : UInt64} {n : Nat} (ha : ft_P a) (hb : ft_P b) (hlt : ft_z a < ft_z b) (hn : ft_R n) (h : ft_z b - ft_z a ≤ n) :
    ∃ c q, FP.Core.val64 (FP.dsub a b) = .fin true c q ∧ FP.Core.zmag FP.Core.b64 (.fin true c q) ≤ n ∧ 0 < FP.Core.zmag FP.Core.b64 (.fin true c q) := by
  obtain ⟨c, q, ea⟩ := ha
  obtain ⟨d, r, eb⟩ := hb
  unfold ft_z at h hlt
  have hv : FP.Core.val64 (FP.dsub a b) = _ := FP.Core.val64_dsub a b
  rw [ea, eb] at h hlt hv
  have hz : FP.Core.zmag FP.Core.b64 (.fin true d r) = FP.Core.zmag FP.Core.b64 (.fin false d r) := rfl
  rw [show FP.Core.negate (.fin false d r) = .fin true d r from rfl] at hv
  obtain ⟨sg, k, e, p1, p2, p3⟩ := FP.Core.sum_units (ft_fit ea) (FP.Core.negate_fits (ft_fit eb))
  have p1 : FP.Core.exactSum (.fin false c q) (.fin true d r) = .fin sg k e := p1
  have p3 : FP.Core.signed sg (FP.Core.inUnits k e FP.Core.b64.qmin) = FP.Core.zval FP.Core.b64 (.fin false c q) + FP.Core.zval FP.Core.b64 (.fin true d r) := p3
  rw [ft_zvF, ft_zvT, hz] at p3
  have hsg : sg = true := by
    cases sg with
    | true => rfl
    | false => simp [FP.Core.signed] at p3; omega
  subst hsg
  have p4 : (FP.Core.inUnits k e FP.Core.b64.qmin : Int) = (FP.Core.zmag FP.Core.b64 (.fin false d r) : Int) - (FP.Core.zmag FP.Core.b64 (.fin false c q) : Int) := by
    simp [FP.Core.signed] at p3
    omega
  rw [p1] at hv
  obtain ⟨c', q', r1, r2⟩ := ft_round1 (s := true) (A := k) (e := e) hn p2 (by omega)
  have h1 : FP.Core.fits FP.Core.b64 (.fin false 1 FP.Core.b64.qmin) := ⟨by decide, Int.le_refl _, by decide, Or.inl rfl⟩
  have h1z : FP.Core.zmag FP.Core.b64 (.fin false 1 FP.Core.b64.qmin) = 1 := by
    show 1 * 2 ^ (FP.Core.b64.qmin - FP.Core.b64.qmin).toNat = 1
    rw [Int.sub_self]; rfl
  have g := ft_round1_ge (s := true) (A := k) (e := e) h1 p2 (by rw [h1z]; omega)
  rw [r1, h1z] at g
  exact ⟨c', q', by rw [hv, r1], r2, by omega⟩
theorem ft_RS {s : Bool} {c : Nat} {q : Int} (h : FP.Core.fits FP.Core.b64 (.fin s c q)) : ft_R (FP.Core.zmag FP.Core.b64 (.fin s c q)) := ⟨c, q, h, rfl⟩
theorem ft_mulS {s : Bool} {c d : Nat} {q r : Int} {n : Nat} (fa : FP.Core.fits FP.Core.b64 (.fin s c q)) (fb : FP.Core.fits FP.Core.b64 (.fin false d r)) (hn : ft_R n) (h : FP.Core.zmag FP.Core.b64 (.fin s c q) * FP.Core.zmag FP.Core.b64 (.fin false d r) ≤ n * FP.Core.one64) :
    ∃ c' q', FP.Core.round FP.Core.b64 (FP.Core.exactProduct (.fin s c q) (.fin false d r)) = .fin s c' q' ∧ FP.Core.zmag FP.Core.b64 (.fin s c' q') ≤ n := by
  obtain ⟨p1, p2, p3⟩ := FP.Core.product_units fa fb
  have hq := FP.Core.qmin_b64
  have hs : (s != false) = s := by cases s <;> rfl
  rw [p1, hs]
  refine ft_round (s := s) (A := c * d) (B := 1) (e := q + r) (e0 := 2 * FP.Core.b64.qmin) (by decide) hn (by omega) p2 ?_
  rw [p3, Nat.mul_one, show FP.Core.b64.qmin - 2 * FP.Core.b64.qmin = -FP.Core.b64.qmin by omega, ← ft_one_eq]
  exact h
/-- a number without sign and one with a sign that is no greater -/
theorem ft_addS {a b : UInt64} {c : Nat} {q : Int} {n : Nat} (ha : ft_P a) (eb : FP.Core.val64 b = .fin true c q) (hle : FP.Core.zmag FP.Core.b64 (.fin true c q) ≤ ft_z a) (hn : ft_R n) (h : ft_z a ≤ n) :
    ft_P (FP.dadd a b) ∧ ft_z (FP.dadd a b) ≤ n := by
  obtain ⟨d, r, ea⟩ := ha
  unfold ft_z at h hle ⊢
  have hv : FP.Core.val64 (FP.dadd a b) = _ := FP.Core.val64_dadd a b
  rw [ea] at h hle
  rw [ea, eb] at hv
  obtain ⟨k, e, p1, p2, p3⟩ := ft_sum (ft_fit ea) (ft_fit eb) rfl (by rw [ft_zvF, ft_zvT]; omega)
  rw [ft_zvF, ft_zvT] at p3
  rw [p1] at hv
  obtain ⟨c', q', r1, r2⟩ := ft_round1 (s := false) (A := k) (e := e) hn p2 (by omega)
  exact ⟨⟨c', q', by rw [hv, r1]⟩, by rw [hv, r1]; exact r2⟩
/-- a whole number that isn't below zero -/
theorem ft_i2d {k : Int32} (h : 0 ≤ k.toInt) : ft_P (FP.i2d k) ∧ ft_z (FP.i2d k) = k.toInt.toNat * FP.Core.one64 := by
  have e1 : FP.i2d k = FP.Core.l2d k.toInt64 := FP.Core.i2d_l2d k
  obtain ⟨c, q, e2⟩ := FP.Core.l2d_shape k.toInt64
  have e3 : k.toInt64.toInt = k.toInt := Int32.toInt_toInt64 k
  have hs : decide (k.toInt64.toInt < 0) = false := by rw [e3]; exact decide_eq_false (by omega)
  rw [hs, ← e1] at e2
  have hP : ft_P (FP.i2d k) := ⟨c, q, e2⟩
  refine ⟨hP, ?_⟩
  have h1 := FP.Core.DInt_zval (FP.Core.i2d_int k)
  have h2 : FP.Core.zval FP.Core.b64 (FP.Core.val64 (FP.i2d k)) = (ft_z (FP.i2d k) : Int) := hP.zv
  have h3 : (ft_z (FP.i2d k) : Int) = k.toInt * (FP.Core.one64 : Int) := h2.symm.trans h1
  have h4 : ((k.toInt.toNat * FP.Core.one64 : Nat) : Int) = k.toInt * (FP.Core.one64 : Int) := by
    rw [Int.natCast_mul, Int.toNat_of_nonneg h]
  omega
/-- a second's heating towards d in k seconds -/
theorem ft_heat {T d : UInt64} {k : Int32} {n : Nat} (hT : ft_P T) (hd : ft_P d) (hk : 0 < k.toInt) (hn : ft_R n) (hTn : ft_z T ≤ n) (hdn : ft_z d + ft_z d ≤ n) :
    vf_n64 (FP.dsub d T) ∧ vf_n64 (FP.ddiv (FP.dsub d T) (FP.i2d k)) ∧ ft_P (FP.dadd T (FP.ddiv (FP.dsub d T) (FP.i2d k))) ∧ ft_z (FP.dadd T (FP.ddiv (FP.dsub d T) (FP.i2d k))) ≤ n := by
  obtain ⟨hK, hKz⟩ := ft_i2d (k := k) (by omega)
  have hone := ft_one_pos
  have hK1 : FP.Core.one64 ≤ ft_z (FP.i2d k) := by rw [hKz]; exact Nat.le_mul_of_pos_left _ (by omega)
  rcases Nat.lt_or_ge (ft_z d) (ft_z T) with hlt | hge
  · obtain ⟨c, q, eu, uz, -⟩ := ft_subS hd hT hlt hT.R (Nat.sub_le _ _)
    obtain ⟨ck, qk, ek⟩ := hK
    have hKz' : ft_z (FP.i2d k) = FP.Core.zmag FP.Core.b64 (.fin false ck qk) := by unfold ft_z; rw [ek]
    rw [hKz'] at hK1
    obtain ⟨c2, q2, ev, vz⟩ := ft_div_fin (ft_fit eu) (ft_fit ek) (by omega) (ft_RS (ft_fit eu)) (Nat.mul_le_mul_left _ hK1)
    have hv : FP.Core.val64 (FP.ddiv (FP.dsub d T) (FP.i2d k)) = .fin true c2 q2 := by
      have h1 : FP.Core.val64 (FP.ddiv (FP.dsub d T) (FP.i2d k)) = _ := FP.Core.val64_ddiv _ _
      rw [h1, eu, ek, ev]
    obtain ⟨w1, w2⟩ := ft_addS hT hv (Nat.le_trans vz uz) hn hTn
    exact ⟨ft_fn ⟨_, _, _, eu⟩, ft_fn ⟨_, _, _, hv⟩, w1, w2⟩
  · obtain ⟨u1, u2⟩ := ft_sub_le hd hT hge
    obtain ⟨v1, v2⟩ := ft_div u1 hK (by omega) u1.R (Nat.mul_le_mul_left _ hK1)
    obtain ⟨w1, w2, -⟩ := ft_add hT v1 hn (by omega)
    exact ⟨u1.n, v1.n, w1, w2⟩
theorem ft_c025 : FP.Core.val64 0x3FD0000000000000 = .fin false 4503599627370496 (-54) := by decide +kernel
theorem ft_c1 : FP.Core.val64 0x3FF0000000000000 = .fin false 4503599627370496 (-52) := by decide +kernel
theorem ft_c1P : ft_P 0x3FF0000000000000 := ⟨_, _, ft_c1⟩
theorem ft_c1z : ft_z 0x3FF0000000000000 = FP.Core.one64 := by decide +kernel
theorem ft_0P : ft_P 0 := ⟨_, _, FP.Core.val64_zero⟩
theorem ft_0z : ft_z 0 = 0 := by decide +kernel
theorem ft_c55P : ft_P 0x4016000000000000 := by
  have : FP.Core.val64 0x4016000000000000 = .fin false 6192449487634432 (-50) := by decide +kernel
  exact ⟨_, _, this⟩
theorem ft_c025P : ft_P 0x3FD0000000000000 := ⟨_, _, ft_c025⟩
theorem ft_c025z : ft_z 0x3FD0000000000000 ≤ FP.Core.one64 := by decide +kernel
/-- how the acidity fits -/
theorem ft_fitness {A : UInt64} (hA : ft_P A) :
    vf_n64 (FP.dsub A 0x4016000000000000) ∧ vf_n64 (FP.dmul (FP.dsub A 0x4016000000000000) (FP.dsub A 0x4016000000000000)) ∧
    vf_n64 (FP.dmul (FP.dmul (FP.dsub A 0x4016000000000000) (FP.dsub A 0x4016000000000000)) 0x3FD0000000000000) ∧
    vf_n64 (FP.dsub 0x3FF0000000000000 (FP.dmul (FP.dmul (FP.dsub A 0x4016000000000000) (FP.dsub A 0x4016000000000000)) 0x3FD0000000000000)) ∧
    (FP.dcmp (FP.dsub 0x3FF0000000000000 (FP.dmul (FP.dmul (FP.dsub A 0x4016000000000000) (FP.dsub A 0x4016000000000000)) 0x3FD0000000000000)) 0 ≠ some .lt →
      ft_P (FP.dsub 0x3FF0000000000000 (FP.dmul (FP.dmul (FP.dsub A 0x4016000000000000) (FP.dsub A 0x4016000000000000)) 0x3FD0000000000000)) ∧
      ft_z (FP.dsub 0x3FF0000000000000 (FP.dmul (FP.dmul (FP.dsub A 0x4016000000000000) (FP.dsub A 0x4016000000000000)) 0x3FD0000000000000)) ≤ FP.Core.one64) := by
  have hu : ∃ s c q, FP.Core.val64 (FP.dsub A 0x4016000000000000) = .fin s c q := by
    rcases Nat.lt_or_ge (ft_z A) (ft_z 0x4016000000000000) with h | h
    · obtain ⟨c, q, e, -⟩ := ft_subS hA ft_c55P h ft_c55P.R (Nat.sub_le _ _)
      exact ⟨_, c, q, e⟩
    · exact (ft_sub_le hA ft_c55P h).1.fin
  refine ⟨ft_fn hu, ?_⟩
  generalize FP.dsub A 0x4016000000000000 = u at hu ⊢
  obtain ⟨s, c, q, eu⟩ := hu
  have hm : ft_P (FP.dmul u u) ∨ FP.Core.val64 (FP.dmul u u) = .inf false := by
    have h1 : FP.Core.val64 (FP.dmul u u) = _ := FP.Core.val64_dmul u u
    rw [eu] at h1
    have hs : (s != s) = false := by cases s <;> rfl
    have h2 : FP.Core.round FP.Core.b64 (FP.Core.exactProduct (.fin s c q) (.fin s c q)) = FP.Core.roundRatio FP.Core.b64 false (c * c) 1 (q + q) := by
      show FP.Core.roundRatio FP.Core.b64 (s != s) (c * c) 1 (q + q) = _
      rw [hs]
    rw [h2] at h1
    rcases FP.Core.roundRatio_cases FP.Core.b64 false (c * c) 1 (q + q) with ⟨c', q', h⟩ | h
    · exact Or.inl ⟨c', q', h1.trans h⟩
    · exact Or.inr (h1.trans h)
  have hmn : vf_n64 (FP.dmul u u) := by
    rcases hm with h | h
    · exact h.n
    · exact ft_nn (by rw [h]; intro h9; cases h9)
  refine ⟨hmn, ?_⟩
  generalize FP.dmul u u = w at hm hmn ⊢
  have hq : ft_P (FP.dmul w 0x3FD0000000000000) ∨ FP.Core.val64 (FP.dmul w 0x3FD0000000000000) = .inf false := by
    rcases hm with h | h
    · exact Or.inl (ft_mul_le h ft_c025P ft_c025z).1
    · right
      have h1 : FP.Core.val64 (FP.dmul w 0x3FD0000000000000) = _ := FP.Core.val64_dmul _ _
      rw [h, ft_c025] at h1
      exact h1
  have hqn : vf_n64 (FP.dmul w 0x3FD0000000000000) := by
    rcases hq with h | h
    · exact h.n
    · exact ft_nn (by rw [h]; intro h9; cases h9)
  refine ⟨hqn, ?_⟩
  generalize FP.dmul w 0x3FD0000000000000 = z at hq hqn ⊢
  rcases hq with h | h
  · rcases Nat.lt_or_ge (ft_z 0x3FF0000000000000) (ft_z z) with g | g
    · obtain ⟨c, q, e, -, h0⟩ := ft_subS ft_c1P h g h.R (Nat.sub_le _ _)
      refine ⟨ft_fn ⟨_, c, q, e⟩, fun hne => absurd ?_ hne⟩
      have h2 : FP.Core.val64 (FP.dsub 0x3FF0000000000000 z) ≠ .nan := by rw [e]; intro h9; cases h9
      refine FP.Core.dcmp_lt.mpr ⟨h2, (by rw [FP.Core.val64_zero]; intro h9; cases h9), ?_⟩
      rw [e, ft_zvT, FP.Core.zval64_zero]
      omega
    · obtain ⟨a1, a2⟩ := ft_sub_le ft_c1P h g
      exact ⟨a1.n, fun _ => ⟨a1, by rw [← ft_c1z]; exact a2⟩⟩
  · have h1 : FP.Core.val64 (FP.dsub 0x3FF0000000000000 z) = .inf true := by
      have h2 : FP.Core.val64 (FP.dsub 0x3FF0000000000000 z) = _ := FP.Core.val64_dsub _ _
      rw [h, ft_c1] at h2
      exact h2
    refine ⟨ft_nn (by rw [h1]; intro h9; cases h9), fun hne => absurd ?_ hne⟩
    show FP.Core.order (FP.Core.val64 _) (FP.Core.val64 0) = _
    rw [h1, FP.Core.val64_zero]
    rfl
theorem ft_ac1 (a b c d : Nat) : (a * b) * (c * d) = a * c * b * d := by ac_rfl
theorem ft_ac2 (a b c : Nat) : (a * b) * c = c * a * b := by ac_rfl
theorem ft_ac3 (a b c : Nat) : (a * b) * c = b * c * a := by ac_rfl
/-- a 4,096th -/
def ft_w : Nat := 2 ^ 1062
theorem ft_w4096 : 4096 * ft_w = FP.Core.one64 := by decide +kernel
theorem ft_wR {m : Nat} (h : m < 2 ^ 53) : ft_R (m * ft_w) := ft_R_of h (by decide)
/-- a row's value between two marks -/
theorem ft_row {u v T p d : UInt64} {U V N : Nat} (hu : ft_P u) (huz : ft_z u = U * ft_w) (hv : ft_P v) (hvz : ft_z v = V * ft_w) (hU : U ≤ 4096) (hV : V ≤ 4096)
    (hT : ft_P T) (hp : ft_P p) (hd : ft_P d) (hdz : ft_z d = N * FP.Core.one64) (hN : 0 < N) (hN2 : N ≤ 1000) (h1 : ft_z p ≤ ft_z T) (h2 : ft_z T ≤ ft_z p + ft_z d) :
    vf_n64 (FP.dsub v u) ∧ vf_n64 (FP.dsub T p) ∧ vf_n64 (FP.dmul (FP.dsub v u) (FP.dsub T p)) ∧ vf_n64 (FP.ddiv (FP.dmul (FP.dsub v u) (FP.dsub T p)) d) ∧
    ft_P (FP.dadd u (FP.ddiv (FP.dmul (FP.dsub v u) (FP.dsub T p)) d)) ∧ ft_z (FP.dadd u (FP.ddiv (FP.dmul (FP.dsub v u) (FP.dsub T p)) d)) ≤ FP.Core.one64 := by
  have hone := ft_one_pos
  have hw : 0 < ft_w := Nat.two_pow_pos _
  obtain ⟨t1, t2⟩ := ft_sub hT hp h1 hd.R (by omega)
  have hd0 : 0 < ft_z d := by rw [hdz]; exact Nat.mul_pos hN hone
  have hu1 : ft_z u ≤ FP.Core.one64 := by rw [huz, ← ft_w4096]; exact Nat.mul_le_mul_right _ hU
  have hv1 : ft_z v ≤ FP.Core.one64 := by rw [hvz, ← ft_w4096]; exact Nat.mul_le_mul_right _ hV
  rcases Nat.lt_or_ge (ft_z v) (ft_z u) with hlt | hge
  · have hVU : V < U := by
      rw [huz, hvz] at hlt
      exact Nat.lt_of_mul_lt_mul_right hlt
    have hD : ft_z u - ft_z v = (U - V) * ft_w := by rw [huz, hvz, Nat.sub_mul]
    obtain ⟨c, q, e1, e2, -⟩ := ft_subS hv hu hlt (ft_wR (m := U - V) (by omega)) (Nat.le_of_eq hD)
    obtain ⟨ct, qt, et⟩ := id t1
    have etz : ft_z (FP.dsub T p) = FP.Core.zmag FP.Core.b64 (.fin false ct qt) := by unfold ft_z; rw [et]
    have hb1 : FP.Core.zmag FP.Core.b64 (.fin true c q) * FP.Core.zmag FP.Core.b64 (.fin false ct qt) ≤ (U - V) * N * ft_w * FP.Core.one64 := by
      rw [← etz]
      calc _ ≤ ((U - V) * ft_w) * (N * FP.Core.one64) := Nat.mul_le_mul e2 (by rw [← hdz]; exact t2)
        _ = _ := ft_ac1 _ _ _ _
    obtain ⟨c2, q2, m1, m2⟩ := ft_mulS (ft_fit e1) (ft_fit et) (ft_wR (m := (U - V) * N) (by
      have : (U - V) * N ≤ 4096 * 1000 := Nat.mul_le_mul (by omega) hN2
      omega)) hb1
    have hm : FP.Core.val64 (FP.dmul (FP.dsub v u) (FP.dsub T p)) = .fin true c2 q2 := by
      have h9 : FP.Core.val64 (FP.dmul (FP.dsub v u) (FP.dsub T p)) = _ := FP.Core.val64_dmul _ _
      rw [h9, e1, et, m1]
    obtain ⟨cd, qd, ed⟩ := id hd
    have edz : ft_z d = FP.Core.zmag FP.Core.b64 (.fin false cd qd) := by unfold ft_z; rw [ed]
    obtain ⟨c3, q3, n1, n2⟩ := ft_div_fin (ft_fit hm) (ft_fit ed) (by omega) (ft_wR (m := U - V) (by omega)) (by
      rw [← edz, hdz]
      calc _ ≤ (U - V) * N * ft_w * FP.Core.one64 := Nat.mul_le_mul_right _ m2
        _ = _ := (ft_ac1 _ _ _ _).symm)
    have hq : FP.Core.val64 (FP.ddiv (FP.dmul (FP.dsub v u) (FP.dsub T p)) d) = .fin true c3 q3 := by
      have h9 : FP.Core.val64 (FP.ddiv (FP.dmul (FP.dsub v u) (FP.dsub T p)) d) = _ := FP.Core.val64_ddiv _ _
      rw [h9, hm, ed, n1]
    obtain ⟨r1, r2⟩ := ft_addS hu hq (by omega) hu.R (Nat.le_refl _)
    exact ⟨ft_fn ⟨_, _, _, e1⟩, t1.n, ft_fn ⟨_, _, _, hm⟩, ft_fn ⟨_, _, _, hq⟩, r1, by omega⟩
  · have hVU : U ≤ V := by
      rw [huz, hvz] at hge
      exact Nat.le_of_mul_le_mul_right hge hw
    have hD : ft_z v - ft_z u = (V - U) * ft_w := by rw [huz, hvz, Nat.sub_mul]
    obtain ⟨e1, e2⟩ := ft_sub hv hu hge (ft_wR (m := V - U) (by omega)) (Nat.le_of_eq hD)
    obtain ⟨m1, m2⟩ := ft_mul e1 t1 (ft_wR (m := (V - U) * N) (by
      have : (V - U) * N ≤ 4096 * 1000 := Nat.mul_le_mul (by omega) hN2
      omega)) (by
      calc _ ≤ ((V - U) * ft_w) * (N * FP.Core.one64) := Nat.mul_le_mul e2 (by rw [← hdz]; exact t2)
        _ = _ := ft_ac1 _ _ _ _)
    obtain ⟨n1, n2⟩ := ft_div m1 hd hd0 (ft_wR (m := V - U) (by omega)) (by
      rw [hdz]
      calc _ ≤ (V - U) * N * ft_w * FP.Core.one64 := Nat.mul_le_mul_right _ m2
        _ = _ := (ft_ac1 _ _ _ _).symm)
    obtain ⟨r1, r2, -⟩ := ft_add hu n1 hv.R (by omega)
    exact ⟨e1.n, t1.n, m1.n, n1.n, r1, by omega⟩
/-- the mean weighed by water -/
theorem ft_mix {T W d l : UInt64} {k e : Nat} (hT : ft_P T) (hW : ft_P W) (hd : ft_P d) (hl : ft_P l) (hTn : ft_z T ≤ 2 ^ k * FP.Core.one64) (hdn : ft_z d ≤ 2 ^ k * FP.Core.one64)
    (hs : ft_P (FP.dadd W l)) (hsW : ft_z W ≤ ft_z (FP.dadd W l)) (hsl : ft_z l ≤ ft_z (FP.dadd W l)) (hs0 : 0 < ft_z (FP.dadd W l)) (hse : ft_z (FP.dadd W l) ≤ 2 ^ e) (hke : e + (k + 1) ≤ 2045) (hk : k + 1 ≤ 971) :
    vf_n64 (FP.dmul T W) ∧ vf_n64 (FP.dmul d l) ∧ vf_n64 (FP.dadd (FP.dmul T W) (FP.dmul d l)) ∧ vf_n64 (FP.ddiv (FP.dadd (FP.dmul T W) (FP.dmul d l)) (FP.dadd W l)) ∧
    ft_P (FP.ddiv (FP.dadd (FP.dmul T W) (FP.dmul d l)) (FP.dadd W l)) ∧ ft_z (FP.ddiv (FP.dadd (FP.dmul T W) (FP.dmul d l)) (FP.dadd W l)) ≤ 2 ^ (k + 1) * FP.Core.one64 := by
  generalize FP.dadd W l = s at *
  have rW : ft_R (ft_z W * 2 ^ k) := ft_R_shift hW.R (Nat.le_trans hsW hse) (by omega)
  have rl : ft_R (ft_z l * 2 ^ k) := ft_R_shift hl.R (Nat.le_trans hsl hse) (by omega)
  obtain ⟨a1, a2⟩ := ft_mul hT hW rW (by
    calc ft_z T * ft_z W ≤ (2 ^ k * FP.Core.one64) * ft_z W := Nat.mul_le_mul_right _ hTn
      _ = _ := ft_ac2 _ _ _)
  obtain ⟨b1, b2⟩ := ft_mul hd hl rl (by
    calc ft_z d * ft_z l ≤ (2 ^ k * FP.Core.one64) * ft_z l := Nat.mul_le_mul_right _ hdn
      _ = _ := ft_ac2 _ _ _)
  have rs : ft_R (ft_z s * 2 ^ (k + 1)) := ft_R_shift hs.R hse hke
  obtain ⟨c1, c2, -⟩ := ft_add a1 b1 rs (by
    have h1 : ft_z W * 2 ^ k ≤ ft_z s * 2 ^ k := Nat.mul_le_mul_right _ hsW
    have h2 : ft_z l * 2 ^ k ≤ ft_z s * 2 ^ k := Nat.mul_le_mul_right _ hsl
    rw [Nat.pow_succ, ← Nat.mul_assoc]
    omega)
  obtain ⟨d1, d2⟩ := ft_div c1 hs hs0 (n := 2 ^ (k + 1) * FP.Core.one64) (by
    have := ft_R_one (m := 1) (e := k + 1) (by decide) hk
    rwa [Nat.one_mul] at this) (by
    calc ft_z (FP.dadd (FP.dmul T W) (FP.dmul d l)) * FP.Core.one64 ≤ (ft_z s * 2 ^ (k + 1)) * FP.Core.one64 := Nat.mul_le_mul_right _ c2
      _ = _ := ft_ac3 _ _ _)
  exact ⟨a1.n, b1.n, c1.n, d1.n, d1, d2⟩
end
section
-- ===== PART A: goes FIRST, ahead of the names: the tables' words, and 'selects' of the private methods out of them =====
/-- a private method of a class that the tables say can be made, by its rows of tables_1 -/
def lw_okq (q : MethodName × Nat) : Prop := (q.1.cls ≠ "java/lang/invoke/MethodHandle" ∧ q.1.cls ≠ "java/lang/invoke/VarHandle") ∧ Cond.instantiable q.1.cls q.2 ∈ tables_1 ∧ Cond.privateMethod q.1 ∈ tables_1 ∧ Cond.instanceMethod q.1 ∈ tables_1
theorem lw_p0 : lw_okq (⟨"MashEnzymes$Rows", "reckonValues", "()V"⟩, 2) := ⟨⟨by decide +kernel, by decide +kernel⟩, List.mem_of_getElem? (i := 38) (by decide +kernel), List.mem_of_getElem? (i := 44) (by decide +kernel), List.mem_of_getElem? (i := 45) (by decide +kernel)⟩
theorem lw_p1 : lw_okq (⟨"MashEnzymes$Rows", "markNotAbove", "()I"⟩, 2) := ⟨⟨by decide +kernel, by decide +kernel⟩, List.mem_of_getElem? (i := 38) (by decide +kernel), List.mem_of_getElem? (i := 48) (by decide +kernel), List.mem_of_getElem? (i := 49) (by decide +kernel)⟩
theorem lw_p2 : lw_okq (⟨"MashEnzymes$Rows", "valueFrom", "(II)D"⟩, 2) := ⟨⟨by decide +kernel, by decide +kernel⟩, List.mem_of_getElem? (i := 38) (by decide +kernel), List.mem_of_getElem? (i := 54) (by decide +kernel), List.mem_of_getElem? (i := 55) (by decide +kernel)⟩
theorem lw_p3 : lw_okq (⟨"MashEnzymes$Rows", "between", "(II)D"⟩, 2) := ⟨⟨by decide +kernel, by decide +kernel⟩, List.mem_of_getElem? (i := 38) (by decide +kernel), List.mem_of_getElem? (i := 65) (by decide +kernel), List.mem_of_getElem? (i := 66) (by decide +kernel)⟩
theorem lw_p4 : lw_okq (⟨"MashEnzymes", "isEmpty", "()Z"⟩, 13) := ⟨⟨by decide +kernel, by decide +kernel⟩, List.mem_of_getElem? (i := 6) (by decide +kernel), List.mem_of_getElem? (i := 157) (by decide +kernel), List.mem_of_getElem? (i := 158) (by decide +kernel)⟩
theorem lw_p5 : lw_okq (⟨"MashEnzymes", "passSecond", "()V"⟩, 13) := ⟨⟨by decide +kernel, by decide +kernel⟩, List.mem_of_getElem? (i := 6) (by decide +kernel), List.mem_of_getElem? (i := 162) (by decide +kernel), List.mem_of_getElem? (i := 163) (by decide +kernel)⟩
theorem lw_p6 : lw_okq (⟨"MashEnzymes", "reckonActions", "()V"⟩, 13) := ⟨⟨by decide +kernel, by decide +kernel⟩, List.mem_of_getElem? (i := 6) (by decide +kernel), List.mem_of_getElem? (i := 174) (by decide +kernel), List.mem_of_getElem? (i := 175) (by decide +kernel)⟩
theorem lw_p7 : lw_okq (⟨"MashEnzymes", "acidityFitness", "()D"⟩, 13) := ⟨⟨by decide +kernel, by decide +kernel⟩, List.mem_of_getElem? (i := 6) (by decide +kernel), List.mem_of_getElem? (i := 178) (by decide +kernel), List.mem_of_getElem? (i := 179) (by decide +kernel)⟩
theorem lw_p8 : lw_okq (⟨"MashEnzymes", "gelStarch", "()V"⟩, 13) := ⟨⟨by decide +kernel, by decide +kernel⟩, List.mem_of_getElem? (i := 6) (by decide +kernel), List.mem_of_getElem? (i := 189) (by decide +kernel), List.mem_of_getElem? (i := 190) (by decide +kernel)⟩
theorem lw_p9 : lw_okq (⟨"MashEnzymes", "splitGelledStarch", "()V"⟩, 13) := ⟨⟨by decide +kernel, by decide +kernel⟩, List.mem_of_getElem? (i := 6) (by decide +kernel), List.mem_of_getElem? (i := 197) (by decide +kernel), List.mem_of_getElem? (i := 198) (by decide +kernel)⟩
theorem lw_p10 : lw_okq (⟨"MashEnzymes", "splitDextrinsToMaltose", "()V"⟩, 13) := ⟨⟨by decide +kernel, by decide +kernel⟩, List.mem_of_getElem? (i := 6) (by decide +kernel), List.mem_of_getElem? (i := 202) (by decide +kernel), List.mem_of_getElem? (i := 203) (by decide +kernel)⟩
theorem lw_p11 : lw_okq (⟨"MashEnzymes", "splitDextrinsToGlucose", "()V"⟩, 13) := ⟨⟨by decide +kernel, by decide +kernel⟩, List.mem_of_getElem? (i := 6) (by decide +kernel), List.mem_of_getElem? (i := 210) (by decide +kernel), List.mem_of_getElem? (i := 211) (by decide +kernel)⟩
theorem lw_p12 : lw_okq (⟨"MashEnzymes", "splitProtein", "()V"⟩, 13) := ⟨⟨by decide +kernel, by decide +kernel⟩, List.mem_of_getElem? (i := 6) (by decide +kernel), List.mem_of_getElem? (i := 217) (by decide +kernel), List.mem_of_getElem? (i := 218) (by decide +kernel)⟩
theorem lw_p13 : lw_okq (⟨"MashEnzymes", "decayEnzymes", "()V"⟩, 13) := ⟨⟨by decide +kernel, by decide +kernel⟩, List.mem_of_getElem? (i := 6) (by decide +kernel), List.mem_of_getElem? (i := 221) (by decide +kernel), List.mem_of_getElem? (i := 222) (by decide +kernel)⟩
theorem lw_p14 : lw_okq (⟨"MashEnzymesModel", "isEmpty", "()Z"⟩, 14) := ⟨⟨by decide +kernel, by decide +kernel⟩, List.mem_of_getElem? (i := 264) (by decide +kernel), List.mem_of_getElem? (i := 346) (by decide +kernel), List.mem_of_getElem? (i := 347) (by decide +kernel)⟩
theorem lw_p15 : lw_okq (⟨"MashEnzymesModel", "second", "()V"⟩, 14) := ⟨⟨by decide +kernel, by decide +kernel⟩, List.mem_of_getElem? (i := 264) (by decide +kernel), List.mem_of_getElem? (i := 351) (by decide +kernel), List.mem_of_getElem? (i := 352) (by decide +kernel)⟩
def lw_privs_1 : List (MethodName × Nat) := [(⟨"MashEnzymes$Rows", "reckonValues", "()V"⟩, 2), (⟨"MashEnzymes$Rows", "markNotAbove", "()I"⟩, 2), (⟨"MashEnzymes$Rows", "valueFrom", "(II)D"⟩, 2), (⟨"MashEnzymes$Rows", "between", "(II)D"⟩, 2), (⟨"MashEnzymes", "isEmpty", "()Z"⟩, 13), (⟨"MashEnzymes", "passSecond", "()V"⟩, 13), (⟨"MashEnzymes", "reckonActions", "()V"⟩, 13), (⟨"MashEnzymes", "acidityFitness", "()D"⟩, 13), (⟨"MashEnzymes", "gelStarch", "()V"⟩, 13), (⟨"MashEnzymes", "splitGelledStarch", "()V"⟩, 13), (⟨"MashEnzymes", "splitDextrinsToMaltose", "()V"⟩, 13), (⟨"MashEnzymes", "splitDextrinsToGlucose", "()V"⟩, 13), (⟨"MashEnzymes", "splitProtein", "()V"⟩, 13), (⟨"MashEnzymes", "decayEnzymes", "()V"⟩, 13), (⟨"MashEnzymesModel", "isEmpty", "()Z"⟩, 14), (⟨"MashEnzymesModel", "second", "()V"⟩, 14)]
theorem lw_r1 : ∀ q ∈ lw_privs_1, lw_okq q := List.forall_mem_cons.mpr ⟨lw_p0, List.forall_mem_cons.mpr ⟨lw_p1, List.forall_mem_cons.mpr ⟨lw_p2, List.forall_mem_cons.mpr ⟨lw_p3, List.forall_mem_cons.mpr ⟨lw_p4, List.forall_mem_cons.mpr ⟨lw_p5, List.forall_mem_cons.mpr ⟨lw_p6, List.forall_mem_cons.mpr ⟨lw_p7, List.forall_mem_cons.mpr ⟨lw_p8, List.forall_mem_cons.mpr ⟨lw_p9, List.forall_mem_cons.mpr ⟨lw_p10, List.forall_mem_cons.mpr ⟨lw_p11, List.forall_mem_cons.mpr ⟨lw_p12, List.forall_mem_cons.mpr ⟨lw_p13, List.forall_mem_cons.mpr ⟨lw_p14, List.forall_mem_cons.mpr ⟨lw_p15, fun _ h => absurd h List.not_mem_nil⟩⟩⟩⟩⟩⟩⟩⟩⟩⟩⟩⟩⟩⟩⟩⟩
theorem lw_p16 : lw_okq (⟨"MashEnzymesModel", "row", "(I)D"⟩, 14) := ⟨⟨by decide +kernel, by decide +kernel⟩, List.mem_of_getElem? (i := 264) (by decide +kernel), List.mem_of_getElem? (i := 356) (by decide +kernel), List.mem_of_getElem? (i := 357) (by decide +kernel)⟩
def lw_privs_2 : List (MethodName × Nat) := [(⟨"MashEnzymesModel", "row", "(I)D"⟩, 14)]
theorem lw_r2 : ∀ q ∈ lw_privs_2, lw_okq q := List.forall_mem_cons.mpr ⟨lw_p16, fun _ h => absurd h List.not_mem_nil⟩
def lw_privs : List (MethodName × Nat) := lw_privs_1 ++ (lw_privs_2)
def lw_tbl : List Cond := k2_sels lw_privs ++ tables_1
theorem lw_privs_ok : ∀ q ∈ lw_privs, lw_okq q := by
  show ∀ q ∈ lw_privs_1 ++ (lw_privs_2), lw_okq q
  exact List.forall_mem_append.mpr ⟨lw_r1, lw_r2⟩
/-- the words that every method takes -/
def wT : List Cond := lw_tbl.filter goodWord
theorem wT_mem {w : Cond} (h : w ∈ lw_tbl) (g : goodWord w = true) : w ∈ wT := List.mem_filter.mpr ⟨h, g⟩
theorem wT_in : GoodIn wT wT := fun w h => ⟨h, good_of_word (List.mem_filter.mp h).2⟩
theorem wT_tbl : ∀ w ∈ wT, w ∈ lw_tbl := fun w h => (List.mem_filter.mp h).1
theorem gT_c {ws : List Cond} {c : Cond} (h : GoodIn wT ws) (hc : c ∈ wT) : GoodIn wT (c :: ws) := fun w hw => (List.mem_cons.mp hw).elim (fun e => e ▸ wT_in c hc) (h w)
theorem gT_V {own C : String} {idx n : Nat} {y : MethodName} {b : ByteArray} {r : Option FieldType} (h1 : Cond.methodLink own idx y ∈ wT) (h2 : Cond.instanceMethod y ∈ wT) (h3 : Cond.selects C y y ∈ wT) (h4 : Cond.initialized C ∈ wT) (h5 : Cond.code y b n r ∈ wT) : GoodIn wT (wsV own idx C y (.code y b n r :: wT)) := gT_c (gT_c (gT_c (gT_c (gT_c wT_in h5) h4) h3) h2) h1
theorem gT_S {own : String} {idx n : Nat} {y : MethodName} {b : ByteArray} {r : Option FieldType} (h1 : Cond.methodLink own idx y ∈ wT) (h2 : Cond.static y ∈ wT) (h4 : Cond.initialized y.cls ∈ wT) (h5 : Cond.code y b n r ∈ wT) : GoodIn wT (va_wsS own idx y (.code y b n r :: wT)) := gT_c (gT_c (gT_c (gT_c wT_in h5) h4) h2) h1
theorem gT_I {n : Nat} {y : MethodName} {b : ByteArray} {r : Option FieldType} (h5 : Cond.code y b n r ∈ wT) : GoodIn wT (.code y b n r :: wT) := gT_c wT_in h5
abbrev bM_init : ByteArray := prog_1_method_1_code
abbrev yM_init : MethodName := { cls := "MashEnzymes", name := "<init>", desc := "()V" }
abbrev bM_grain : ByteArray := prog_1_method_2_code
abbrev yM_grain : MethodName := { cls := "MashEnzymes", name := "grain", desc := "(DDI)Z" }
abbrev bM_liquor : ByteArray := prog_1_method_3_code
abbrev yM_liquor : MethodName := { cls := "MashEnzymes", name := "liquor", desc := "(DDD)Z" }
abbrev bM_enzyme : ByteArray := prog_1_method_4_code
abbrev yM_enzyme : MethodName := { cls := "MashEnzymes", name := "enzyme", desc := "(ID)Z" }
abbrev bM_step : ByteArray := prog_1_method_5_code
abbrev yM_step : MethodName := { cls := "MashEnzymes", name := "step", desc := "(ID)Z" }
abbrev bM_run : ByteArray := prog_1_method_6_code
abbrev yM_run : MethodName := { cls := "MashEnzymes", name := "run", desc := "(I)I" }
abbrev bM_sugar : ByteArray := prog_1_method_7_code
abbrev yM_sugar : MethodName := { cls := "MashEnzymes", name := "sugar", desc := "(I)D" }
abbrev bM_starch : ByteArray := prog_1_method_8_code
abbrev yM_starch : MethodName := { cls := "MashEnzymes", name := "starch", desc := "()D" }
abbrev bM_enzymeLeft : ByteArray := prog_1_method_9_code
abbrev yM_enzymeLeft : MethodName := { cls := "MashEnzymes", name := "enzymeLeft", desc := "(I)D" }
abbrev bM_degrees : ByteArray := prog_1_method_10_code
abbrev yM_degrees : MethodName := { cls := "MashEnzymes", name := "degrees", desc := "()D" }
abbrev bM_take : ByteArray := prog_1_method_11_code
abbrev yM_take : MethodName := { cls := "MashEnzymes", name := "take", desc := "(D)I" }
abbrev bM_back : ByteArray := prog_1_method_12_code
abbrev yM_back : MethodName := { cls := "MashEnzymes", name := "back", desc := "(ID)Z" }
abbrev bM_water : ByteArray := prog_1_method_13_code
abbrev yM_water : MethodName := { cls := "MashEnzymes", name := "water", desc := "()D" }
abbrev bM_converted : ByteArray := prog_1_method_14_code
abbrev yM_converted : MethodName := { cls := "MashEnzymes", name := "converted", desc := "()Z" }
abbrev bM_isEmpty : ByteArray := prog_1_method_15_code
abbrev yM_isEmpty : MethodName := { cls := "MashEnzymes", name := "isEmpty", desc := "()Z" }
abbrev bM_isTemperature : ByteArray := prog_1_method_16_code
abbrev yM_isTemperature : MethodName := { cls := "MashEnzymes", name := "isTemperature", desc := "(D)Z" }
abbrev bM_mixed : ByteArray := prog_1_method_17_code
abbrev yM_mixed : MethodName := { cls := "MashEnzymes", name := "mixed", desc := "(DDDD)D" }
abbrev bM_passSecond : ByteArray := prog_1_method_18_code
abbrev yM_passSecond : MethodName := { cls := "MashEnzymes", name := "passSecond", desc := "()V" }
abbrev bM_reckonActions : ByteArray := prog_1_method_19_code
abbrev yM_reckonActions : MethodName := { cls := "MashEnzymes", name := "reckonActions", desc := "()V" }
abbrev bM_acidityFitness : ByteArray := prog_1_method_20_code
abbrev yM_acidityFitness : MethodName := { cls := "MashEnzymes", name := "acidityFitness", desc := "()D" }
abbrev bM_gelStarch : ByteArray := prog_1_method_21_code
abbrev yM_gelStarch : MethodName := { cls := "MashEnzymes", name := "gelStarch", desc := "()V" }
abbrev bM_splitGelledStarch : ByteArray := prog_1_method_22_code
abbrev yM_splitGelledStarch : MethodName := { cls := "MashEnzymes", name := "splitGelledStarch", desc := "()V" }
abbrev bM_splitDextrinsToMaltose : ByteArray := prog_1_method_23_code
abbrev yM_splitDextrinsToMaltose : MethodName := { cls := "MashEnzymes", name := "splitDextrinsToMaltose", desc := "()V" }
abbrev bM_splitDextrinsToGlucose : ByteArray := prog_1_method_24_code
abbrev yM_splitDextrinsToGlucose : MethodName := { cls := "MashEnzymes", name := "splitDextrinsToGlucose", desc := "()V" }
abbrev bM_splitProtein : ByteArray := prog_1_method_25_code
abbrev yM_splitProtein : MethodName := { cls := "MashEnzymes", name := "splitProtein", desc := "()V" }
abbrev bM_decayEnzymes : ByteArray := prog_1_method_26_code
abbrev yM_decayEnzymes : MethodName := { cls := "MashEnzymes", name := "decayEnzymes", desc := "()V" }
abbrev bM_lesser : ByteArray := prog_1_method_27_code
abbrev yM_lesser : MethodName := { cls := "MashEnzymes", name := "lesser", desc := "(DD)D" }
abbrev bN_init : ByteArray := prog_5_method_1_code
abbrev yN_init : MethodName := { cls := "MashEnzymesModel", name := "<init>", desc := "()V" }
abbrev bN_grain : ByteArray := prog_5_method_2_code
abbrev yN_grain : MethodName := { cls := "MashEnzymesModel", name := "grain", desc := "(DDI)Z" }
abbrev bN_liquor : ByteArray := prog_5_method_3_code
abbrev yN_liquor : MethodName := { cls := "MashEnzymesModel", name := "liquor", desc := "(DDD)Z" }
abbrev bN_enzyme : ByteArray := prog_5_method_4_code
abbrev yN_enzyme : MethodName := { cls := "MashEnzymesModel", name := "enzyme", desc := "(ID)Z" }
abbrev bN_step : ByteArray := prog_5_method_5_code
abbrev yN_step : MethodName := { cls := "MashEnzymesModel", name := "step", desc := "(ID)Z" }
abbrev bN_row : ByteArray := prog_5_method_6_code
abbrev yN_row : MethodName := { cls := "MashEnzymesModel", name := "row", desc := "(I)D" }
abbrev bN_second : ByteArray := prog_5_method_7_code
abbrev yN_second : MethodName := { cls := "MashEnzymesModel", name := "second", desc := "()V" }
abbrev bN_isEmpty : ByteArray := prog_5_method_8_code
abbrev yN_isEmpty : MethodName := { cls := "MashEnzymesModel", name := "isEmpty", desc := "()Z" }
abbrev bN_run : ByteArray := prog_5_method_9_code
abbrev yN_run : MethodName := { cls := "MashEnzymesModel", name := "run", desc := "(I)I" }
abbrev bN_sugar : ByteArray := prog_5_method_10_code
abbrev yN_sugar : MethodName := { cls := "MashEnzymesModel", name := "sugar", desc := "(I)D" }
abbrev bN_starch : ByteArray := prog_5_method_11_code
abbrev yN_starch : MethodName := { cls := "MashEnzymesModel", name := "starch", desc := "()D" }
abbrev bN_enzymeLeft : ByteArray := prog_5_method_12_code
abbrev yN_enzymeLeft : MethodName := { cls := "MashEnzymesModel", name := "enzymeLeft", desc := "(I)D" }
abbrev bN_degrees : ByteArray := prog_5_method_13_code
abbrev yN_degrees : MethodName := { cls := "MashEnzymesModel", name := "degrees", desc := "()D" }
abbrev bN_take : ByteArray := prog_5_method_14_code
abbrev yN_take : MethodName := { cls := "MashEnzymesModel", name := "take", desc := "(D)I" }
abbrev bN_back : ByteArray := prog_5_method_15_code
abbrev yN_back : MethodName := { cls := "MashEnzymesModel", name := "back", desc := "(ID)Z" }
abbrev bN_water : ByteArray := prog_5_method_16_code
abbrev yN_water : MethodName := { cls := "MashEnzymesModel", name := "water", desc := "()D" }
abbrev bN_converted : ByteArray := prog_5_method_17_code
abbrev yN_converted : MethodName := { cls := "MashEnzymesModel", name := "converted", desc := "()Z" }
abbrev bH_init : ByteArray := prog_2_method_1_code
abbrev yH_init : MethodName := { cls := "MashEnzymes$Heating", name := "<init>", desc := "()V" }
abbrev bH_append : ByteArray := prog_2_method_2_code
abbrev yH_append : MethodName := { cls := "MashEnzymes$Heating", name := "append", desc := "(ID)Z" }
abbrev bH_heated : ByteArray := prog_2_method_3_code
abbrev yH_heated : MethodName := { cls := "MashEnzymes$Heating", name := "heated", desc := "(DI)D" }
abbrev bQ_init : ByteArray := prog_3_method_1_code
abbrev yQ_init : MethodName := { cls := "MashEnzymes$Rows", name := "<init>", desc := "()V" }
abbrev bQ_rate : ByteArray := prog_3_method_2_code
abbrev yQ_rate : MethodName := { cls := "MashEnzymes$Rows", name := "rate", desc := "(I)D" }
abbrev bQ_decay : ByteArray := prog_3_method_3_code
abbrev yQ_decay : MethodName := { cls := "MashEnzymes$Rows", name := "decay", desc := "(I)D" }
abbrev bQ_gelling : ByteArray := prog_3_method_4_code
abbrev yQ_gelling : MethodName := { cls := "MashEnzymes$Rows", name := "gelling", desc := "()D" }
abbrev bQ_moveTo : ByteArray := prog_3_method_5_code
abbrev yQ_moveTo : MethodName := { cls := "MashEnzymes$Rows", name := "moveTo", desc := "(D)V" }
abbrev bQ_reckonValues : ByteArray := prog_3_method_6_code
abbrev yQ_reckonValues : MethodName := { cls := "MashEnzymes$Rows", name := "reckonValues", desc := "()V" }
abbrev bQ_valueFrom : ByteArray := prog_3_method_7_code
abbrev yQ_valueFrom : MethodName := { cls := "MashEnzymes$Rows", name := "valueFrom", desc := "(II)D" }
abbrev bQ_markNotAbove : ByteArray := prog_3_method_8_code
abbrev yQ_markNotAbove : MethodName := { cls := "MashEnzymes$Rows", name := "markNotAbove", desc := "()I" }
abbrev bQ_between : ByteArray := prog_3_method_9_code
abbrev yQ_between : MethodName := { cls := "MashEnzymes$Rows", name := "between", desc := "(II)D" }
abbrev bQ_atMark : ByteArray := prog_3_method_10_code
abbrev yQ_atMark : MethodName := { cls := "MashEnzymes$Rows", name := "atMark", desc := "(II)D" }
def F_M : u_T := fun k => match k with
  | 0 => ("MashEnzymes", "amounts", "[D", true)
  | 1 => ("MashEnzymes", "decoctions", "[[D", true)
  | 2 => ("MashEnzymes", "isBack", "[Z", true)
  | 3 => ("MashEnzymes", "actions", "[D", true)
  | 4 => ("MashEnzymes", "heating", "LMashEnzymes$Heating;", true)
  | 5 => ("MashEnzymes", "rows", "LMashEnzymes$Rows;", true)
  | 6 => ("MashEnzymes", "decoctionCount", "I", false)
  | 7 => ("MashEnzymes", "now", "I", false)
  | 8 => ("MashEnzymes", "temperature", "D", false)
  | 9 => ("MashEnzymes", "sourness", "D", false)
  | 10 => ("MashEnzymes", "toldStarch", "D", false)
  | 11 => ("MashEnzymes", "grainTold", "Z", false)
  | _ => ("MashEnzymes", "liquorTold", "Z", false)
def t_M : Nat → FieldType := fun k => match k with
  | 0 => .array .double
  | 1 => .array (.array .double)
  | 2 => .array .boolean
  | 3 => .array .double
  | 4 => .object "MashEnzymes$Heating"
  | 5 => .object "MashEnzymes$Rows"
  | 6 => .int
  | 7 => .int
  | 8 => .double
  | 9 => .double
  | 10 => .double
  | 11 => .boolean
  | _ => .boolean
theorem n_M : ∀ a, a < 13 → ∀ b, b < 13 → a ≠ b → (F_M a).2.1 ≠ (F_M b).2.1 := by decide +kernel
theorem t_M_ok : ∀ k, k < 13 → parseFieldDescriptor (F_M k).2.2.1 = some (t_M k) := by decide +kernel
theorem in0_M : ∀ w ∈ u_ws "MashEnzymes" F_M 13, w ∈ tables_1 := by decide +kernel
theorem in1_M : ∀ w ∈ u_ws "MashEnzymes" F_M 13, goodWord w = true := by decide +kernel
theorem in_M : ∀ w ∈ u_ws "MashEnzymes" F_M 13, w ∈ wT := fun w h => wT_mem (List.mem_append_right _ (in0_M w h)) (in1_M w h)
def F_H : u_T := fun k => match k with
  | 0 => ("MashEnzymes$Heating", "seconds", "[I", true)
  | 1 => ("MashEnzymes$Heating", "targets", "[D", true)
  | 2 => ("MashEnzymes$Heating", "count", "I", false)
  | _ => ("MashEnzymes$Heating", "next", "I", false)
def t_H : Nat → FieldType := fun k => match k with
  | 0 => .array .int
  | 1 => .array .double
  | 2 => .int
  | _ => .int
theorem n_H : ∀ a, a < 4 → ∀ b, b < 4 → a ≠ b → (F_H a).2.1 ≠ (F_H b).2.1 := by decide +kernel
theorem t_H_ok : ∀ k, k < 4 → parseFieldDescriptor (F_H k).2.2.1 = some (t_H k) := by decide +kernel
theorem in0_H : ∀ w ∈ u_ws "MashEnzymes$Heating" F_H 4, w ∈ tables_1 := by decide +kernel
theorem in1_H : ∀ w ∈ u_ws "MashEnzymes$Heating" F_H 4, goodWord w = true := by decide +kernel
theorem in_H : ∀ w ∈ u_ws "MashEnzymes$Heating" F_H 4, w ∈ wT := fun w h => wT_mem (List.mem_append_right _ (in0_H w h)) (in1_H w h)
def F_Q : u_T := fun k => match k with
  | 0 => ("MashEnzymes$Rows", "values", "[D", true)
  | _ => ("MashEnzymes$Rows", "at", "D", false)
def t_Q : Nat → FieldType := fun k => match k with
  | 0 => .array .double
  | _ => .double
theorem n_Q : ∀ a, a < 2 → ∀ b, b < 2 → a ≠ b → (F_Q a).2.1 ≠ (F_Q b).2.1 := by decide +kernel
theorem t_Q_ok : ∀ k, k < 2 → parseFieldDescriptor (F_Q k).2.2.1 = some (t_Q k) := by decide +kernel
theorem in0_Q : ∀ w ∈ u_ws "MashEnzymes$Rows" F_Q 2, w ∈ tables_1 := by decide +kernel
theorem in1_Q : ∀ w ∈ u_ws "MashEnzymes$Rows" F_Q 2, goodWord w = true := by decide +kernel
theorem in_Q : ∀ w ∈ u_ws "MashEnzymes$Rows" F_Q 2, w ∈ wT := fun w h => wT_mem (List.mem_append_right _ (in0_Q w h)) (in1_Q w h)
def F_N : u_T := fun k => match k with
  | 0 => ("MashEnzymesModel", "has", "[D", true)
  | 1 => ("MashEnzymesModel", "degrees", "D", false)
  | 2 => ("MashEnzymesModel", "acidity", "D", false)
  | 3 => ("MashEnzymesModel", "grainTold", "Z", false)
  | 4 => ("MashEnzymesModel", "liquorTold", "Z", false)
  | 5 => ("MashEnzymesModel", "starchTold", "D", false)
  | 6 => ("MashEnzymesModel", "now", "I", false)
  | 7 => ("MashEnzymesModel", "steps", "I", false)
  | 8 => ("MashEnzymesModel", "seconds", "[I", true)
  | 9 => ("MashEnzymesModel", "goals", "[D", true)
  | 10 => ("MashEnzymesModel", "taken", "I", false)
  | 11 => ("MashEnzymesModel", "parts", "[D", true)
  | 12 => ("MashEnzymesModel", "returned", "[Z", true)
  | _ => ("MashEnzymesModel", "f", "[D", true)
def t_N : Nat → FieldType := fun k => match k with
  | 0 => .array .double
  | 1 => .double
  | 2 => .double
  | 3 => .boolean
  | 4 => .boolean
  | 5 => .double
  | 6 => .int
  | 7 => .int
  | 8 => .array .int
  | 9 => .array .double
  | 10 => .int
  | 11 => .array .double
  | 12 => .array .boolean
  | _ => .array .double
theorem n_N : ∀ a, a < 14 → ∀ b, b < 14 → a ≠ b → (F_N a).2.1 ≠ (F_N b).2.1 := by decide +kernel
theorem t_N_ok : ∀ k, k < 14 → parseFieldDescriptor (F_N k).2.2.1 = some (t_N k) := by decide +kernel
theorem in0_N : ∀ w ∈ u_ws "MashEnzymesModel" F_N 14, w ∈ tables_1 := by decide +kernel
theorem in1_N : ∀ w ∈ u_ws "MashEnzymesModel" F_N 14, goodWord w = true := by decide +kernel
theorem in_N : ∀ w ∈ u_ws "MashEnzymesModel" F_N 14, w ∈ wT := fun w h => wT_mem (List.mem_append_right _ (in0_N w h)) (in1_N w h)
abbrev cls : List vw_C := [("MashEnzymes", F_M, 13), ("MashEnzymes$Heating", F_H, 4), ("MashEnzymes$Rows", F_Q, 2), ("MashEnzymesModel", F_N, 14)]
end
section
theorem tw_I_L : Cond.initialized "MashEnzymesLaw" ∈ wT := wT_mem (List.mem_append_right _ (List.mem_of_getElem? (i := 0) (by decide +kernel))) (by decide +kernel)
theorem tw_I_M : Cond.initialized "MashEnzymes" ∈ wT := wT_mem (List.mem_append_right _ (List.mem_of_getElem? (i := 1) (by decide +kernel))) (by decide +kernel)
theorem tw_I_H : Cond.initialized "MashEnzymes$Heating" ∈ wT := wT_mem (List.mem_append_right _ (List.mem_of_getElem? (i := 2) (by decide +kernel))) (by decide +kernel)
theorem tw_I_Q : Cond.initialized "MashEnzymes$Rows" ∈ wT := wT_mem (List.mem_append_right _ (List.mem_of_getElem? (i := 3) (by decide +kernel))) (by decide +kernel)
theorem tw_I_N : Cond.initialized "MashEnzymesModel" ∈ wT := wT_mem (List.mem_append_right _ (List.mem_of_getElem? (i := 4) (by decide +kernel))) (by decide +kernel)
theorem tw_cl_L_7 : Cond.classLink "MashEnzymesLaw" 7 "MashEnzymes" ∈ wT := wT_mem (List.mem_append_right _ (List.mem_of_getElem? (i := 5) (by decide +kernel))) (by decide +kernel)
theorem tw_n_M : Cond.instantiable "MashEnzymes" 13 ∈ wT := wT_mem (List.mem_append_right _ (List.mem_of_getElem? (i := 6) (by decide +kernel))) (by decide +kernel)
theorem tw_m_L_9 : Cond.methodLink "MashEnzymesLaw" 9 yM_init ∈ wT := wT_mem (List.mem_append_right _ (List.mem_of_getElem? (i := 7) (by decide +kernel))) (by decide +kernel)
theorem tw_i_yM_init : Cond.instanceMethod yM_init ∈ wT := wT_mem (List.mem_append_right _ (List.mem_of_getElem? (i := 8) (by decide +kernel))) (by decide +kernel)
theorem tw_c_yM_init : Cond.code yM_init bM_init 1 none ∈ wT := wT_mem (List.mem_append_right _ (List.mem_of_getElem? (i := 9) rfl)) (by decide +kernel)
theorem tw_m_M_3 : Cond.methodLink "MashEnzymes" 3 objectInit ∈ wT := wT_mem (List.mem_append_right _ (List.mem_of_getElem? (i := 10) (by decide +kernel))) (by decide +kernel)
theorem tw_i_objectInit : Cond.instanceMethod objectInit ∈ wT := wT_mem (List.mem_append_right _ (List.mem_of_getElem? (i := 11) (by decide +kernel))) (by decide +kernel)
theorem tw_c_objectInit : Cond.code objectInit ⟨#[0xb1]⟩ 1 none ∈ wT := wT_mem (List.mem_append_right _ (List.mem_of_getElem? (i := 12) rfl)) (by decide +kernel)
theorem tw_cl_M_13 : Cond.classLink "MashEnzymes" 13 "[[D" ∈ wT := wT_mem (List.mem_append_right _ (List.mem_of_getElem? (i := 13) (by decide +kernel))) (by decide +kernel)
theorem tw_cl_M_25 : Cond.classLink "MashEnzymes" 25 "MashEnzymes$Heating" ∈ wT := wT_mem (List.mem_append_right _ (List.mem_of_getElem? (i := 15) (by decide +kernel))) (by decide +kernel)
theorem tw_n_H : Cond.instantiable "MashEnzymes$Heating" 4 ∈ wT := wT_mem (List.mem_append_right _ (List.mem_of_getElem? (i := 16) (by decide +kernel))) (by decide +kernel)
theorem tw_i_yH_init : Cond.instanceMethod yH_init ∈ wT := wT_mem (List.mem_append_right _ (List.mem_of_getElem? (i := 18) (by decide +kernel))) (by decide +kernel)
theorem tw_c_yH_init : Cond.code yH_init bH_init 1 none ∈ wT := wT_mem (List.mem_append_right _ (List.mem_of_getElem? (i := 19) rfl)) (by decide +kernel)
theorem tw_m_H_3 : Cond.methodLink "MashEnzymes$Heating" 3 objectInit ∈ wT := wT_mem (List.mem_append_right _ (List.mem_of_getElem? (i := 20) (by decide +kernel))) (by decide +kernel)
theorem tw_f_H_9 : Cond.fieldLink "MashEnzymes$Heating" 9 "MashEnzymes$Heating" "seconds" "[I" ∈ wT := wT_mem (List.mem_append_right _ (List.mem_of_getElem? (i := 21) (by decide +kernel))) (by decide +kernel)
theorem tw_f_H_15 : Cond.fieldLink "MashEnzymes$Heating" 15 "MashEnzymes$Heating" "targets" "[D" ∈ wT := wT_mem (List.mem_append_right _ (List.mem_of_getElem? (i := 22) (by decide +kernel))) (by decide +kernel)
theorem tw_f_H_19 : Cond.fieldLink "MashEnzymes$Heating" 19 "MashEnzymes$Heating" "count" "I" ∈ wT := wT_mem (List.mem_append_right _ (List.mem_of_getElem? (i := 23) (by decide +kernel))) (by decide +kernel)
theorem tw_f_H_23 : Cond.fieldLink "MashEnzymes$Heating" 23 "MashEnzymes$Heating" "next" "I" ∈ wT := wT_mem (List.mem_append_right _ (List.mem_of_getElem? (i := 24) (by decide +kernel))) (by decide +kernel)
theorem tw_a_double : Cond.arrayClass .double ∈ wT := wT_mem (List.mem_append_right _ (List.mem_of_getElem? (i := 34) (by decide +kernel))) (by decide +kernel)
theorem tw_a_boolean : Cond.arrayClass .boolean ∈ wT := wT_mem (List.mem_append_right _ (List.mem_of_getElem? (i := 35) (by decide +kernel))) (by decide +kernel)
theorem tw_a_int : Cond.arrayClass .int ∈ wT := wT_mem (List.mem_append_right _ (List.mem_of_getElem? (i := 36) (by decide +kernel))) (by decide +kernel)
theorem tw_cl_M_32 : Cond.classLink "MashEnzymes" 32 "MashEnzymes$Rows" ∈ wT := wT_mem (List.mem_append_right _ (List.mem_of_getElem? (i := 37) (by decide +kernel))) (by decide +kernel)
theorem tw_n_Q : Cond.instantiable "MashEnzymes$Rows" 2 ∈ wT := wT_mem (List.mem_append_right _ (List.mem_of_getElem? (i := 38) (by decide +kernel))) (by decide +kernel)
theorem tw_m_M_34 : Cond.methodLink "MashEnzymes" 34 yQ_init ∈ wT := wT_mem (List.mem_append_right _ (List.mem_of_getElem? (i := 39) (by decide +kernel))) (by decide +kernel)
theorem tw_i_yQ_init : Cond.instanceMethod yQ_init ∈ wT := wT_mem (List.mem_append_right _ (List.mem_of_getElem? (i := 40) (by decide +kernel))) (by decide +kernel)
theorem tw_c_yQ_init : Cond.code yQ_init bQ_init 1 none ∈ wT := wT_mem (List.mem_append_right _ (List.mem_of_getElem? (i := 41) rfl)) (by decide +kernel)
theorem tw_m_Q_5 : Cond.methodLink "MashEnzymes$Rows" 5 objectInit ∈ wT := wT_mem (List.mem_append_right _ (List.mem_of_getElem? (i := 42) (by decide +kernel))) (by decide +kernel)
theorem tw_m_Q_15 : Cond.methodLink "MashEnzymes$Rows" 15 yQ_reckonValues ∈ wT := wT_mem (List.mem_append_right _ (List.mem_of_getElem? (i := 43) (by decide +kernel))) (by decide +kernel)
theorem tw_i_yQ_reckonValues : Cond.instanceMethod yQ_reckonValues ∈ wT := wT_mem (List.mem_append_right _ (List.mem_of_getElem? (i := 45) (by decide +kernel))) (by decide +kernel)
theorem tw_c_yQ_reckonValues : Cond.code yQ_reckonValues bQ_reckonValues 3 none ∈ wT := wT_mem (List.mem_append_right _ (List.mem_of_getElem? (i := 46) rfl)) (by decide +kernel)
theorem tw_m_Q_22 : Cond.methodLink "MashEnzymes$Rows" 22 yQ_markNotAbove ∈ wT := wT_mem (List.mem_append_right _ (List.mem_of_getElem? (i := 47) (by decide +kernel))) (by decide +kernel)
theorem tw_i_yQ_markNotAbove : Cond.instanceMethod yQ_markNotAbove ∈ wT := wT_mem (List.mem_append_right _ (List.mem_of_getElem? (i := 49) (by decide +kernel))) (by decide +kernel)
theorem tw_c_yQ_markNotAbove : Cond.code yQ_markNotAbove bQ_markNotAbove 2 (some .int) ∈ wT := wT_mem (List.mem_append_right _ (List.mem_of_getElem? (i := 50) rfl)) (by decide +kernel)
theorem tw_f_Q_36 : Cond.fieldLink "MashEnzymes$Rows" 36 "MashEnzymes$Rows" "MARK_DEGREES" "[I" ∈ wT := wT_mem (List.mem_append_right _ (List.mem_of_getElem? (i := 51) (by decide +kernel))) (by decide +kernel)
theorem tw_ls_Q_MARK_DEGREES : Cond.laysStatic "MashEnzymes$Rows" "MARK_DEGREES" "[I" ∈ lw_tbl := List.mem_append_right _ (List.mem_of_getElem? (i := 52) (by decide +kernel))
theorem tw_m_Q_26 : Cond.methodLink "MashEnzymes$Rows" 26 yQ_valueFrom ∈ wT := wT_mem (List.mem_append_right _ (List.mem_of_getElem? (i := 53) (by decide +kernel))) (by decide +kernel)
theorem tw_i_yQ_valueFrom : Cond.instanceMethod yQ_valueFrom ∈ wT := wT_mem (List.mem_append_right _ (List.mem_of_getElem? (i := 55) (by decide +kernel))) (by decide +kernel)
theorem tw_c_yQ_valueFrom : Cond.code yQ_valueFrom bQ_valueFrom 3 (some .double) ∈ wT := wT_mem (List.mem_append_right _ (List.mem_of_getElem? (i := 56) rfl)) (by decide +kernel)
theorem tw_m_Q_30 : Cond.methodLink "MashEnzymes$Rows" 30 yQ_atMark ∈ wT := wT_mem (List.mem_append_right _ (List.mem_of_getElem? (i := 57) (by decide +kernel))) (by decide +kernel)
theorem tw_st_yQ_atMark : Cond.static yQ_atMark ∈ wT := wT_mem (List.mem_append_right _ (List.mem_of_getElem? (i := 58) (by decide +kernel))) (by decide +kernel)
theorem tw_c_yQ_atMark : Cond.code yQ_atMark bQ_atMark 2 (some .double) ∈ wT := wT_mem (List.mem_append_right _ (List.mem_of_getElem? (i := 59) rfl)) (by decide +kernel)
theorem tw_f_Q_40 : Cond.fieldLink "MashEnzymes$Rows" 40 "MashEnzymes$Rows" "TABLE" "[I" ∈ wT := wT_mem (List.mem_append_right _ (List.mem_of_getElem? (i := 60) (by decide +kernel))) (by decide +kernel)
theorem tw_ls_Q_TABLE : Cond.laysStatic "MashEnzymes$Rows" "TABLE" "[I" ∈ lw_tbl := List.mem_append_right _ (List.mem_of_getElem? (i := 61) (by decide +kernel))
theorem tw_d_Q_43 : Cond.constantDouble "MashEnzymes$Rows" 43 4620693217682128896 ∈ wT := wT_mem (List.mem_append_right _ (List.mem_of_getElem? (i := 62) (by decide +kernel))) (by decide +kernel)
theorem tw_d_Q_45 : Cond.constantDouble "MashEnzymes$Rows" 45 4661225614328463360 ∈ wT := wT_mem (List.mem_append_right _ (List.mem_of_getElem? (i := 63) (by decide +kernel))) (by decide +kernel)
theorem tw_m_Q_33 : Cond.methodLink "MashEnzymes$Rows" 33 yQ_between ∈ wT := wT_mem (List.mem_append_right _ (List.mem_of_getElem? (i := 64) (by decide +kernel))) (by decide +kernel)
theorem tw_i_yQ_between : Cond.instanceMethod yQ_between ∈ wT := wT_mem (List.mem_append_right _ (List.mem_of_getElem? (i := 66) (by decide +kernel))) (by decide +kernel)
theorem tw_c_yQ_between : Cond.code yQ_between bQ_between 9 (some .double) ∈ wT := wT_mem (List.mem_append_right _ (List.mem_of_getElem? (i := 67) rfl)) (by decide +kernel)
theorem tw_f_Q_11 : Cond.fieldLink "MashEnzymes$Rows" 11 "MashEnzymes$Rows" "values" "[D" ∈ wT := wT_mem (List.mem_append_right _ (List.mem_of_getElem? (i := 68) (by decide +kernel))) (by decide +kernel)
theorem tw_f_Q_18 : Cond.fieldLink "MashEnzymes$Rows" 18 "MashEnzymes$Rows" "at" "D" ∈ wT := wT_mem (List.mem_append_right _ (List.mem_of_getElem? (i := 69) (by decide +kernel))) (by decide +kernel)
theorem tw_f_M_9 : Cond.fieldLink "MashEnzymes" 9 "MashEnzymes" "amounts" "[D" ∈ wT := wT_mem (List.mem_append_right _ (List.mem_of_getElem? (i := 75) (by decide +kernel))) (by decide +kernel)
theorem tw_f_M_15 : Cond.fieldLink "MashEnzymes" 15 "MashEnzymes" "decoctions" "[[D" ∈ wT := wT_mem (List.mem_append_right _ (List.mem_of_getElem? (i := 76) (by decide +kernel))) (by decide +kernel)
theorem tw_f_M_18 : Cond.fieldLink "MashEnzymes" 18 "MashEnzymes" "isBack" "[Z" ∈ wT := wT_mem (List.mem_append_right _ (List.mem_of_getElem? (i := 77) (by decide +kernel))) (by decide +kernel)
theorem tw_f_M_22 : Cond.fieldLink "MashEnzymes" 22 "MashEnzymes" "actions" "[D" ∈ wT := wT_mem (List.mem_append_right _ (List.mem_of_getElem? (i := 78) (by decide +kernel))) (by decide +kernel)
theorem tw_f_M_28 : Cond.fieldLink "MashEnzymes" 28 "MashEnzymes" "heating" "LMashEnzymes$Heating;" ∈ wT := wT_mem (List.mem_append_right _ (List.mem_of_getElem? (i := 79) (by decide +kernel))) (by decide +kernel)
theorem tw_f_M_35 : Cond.fieldLink "MashEnzymes" 35 "MashEnzymes" "rows" "LMashEnzymes$Rows;" ∈ wT := wT_mem (List.mem_append_right _ (List.mem_of_getElem? (i := 80) (by decide +kernel))) (by decide +kernel)
theorem tw_f_M_100 : Cond.fieldLink "MashEnzymes" 100 "MashEnzymes" "decoctionCount" "I" ∈ wT := wT_mem (List.mem_append_right _ (List.mem_of_getElem? (i := 81) (by decide +kernel))) (by decide +kernel)
theorem tw_f_M_81 : Cond.fieldLink "MashEnzymes" 81 "MashEnzymes" "now" "I" ∈ wT := wT_mem (List.mem_append_right _ (List.mem_of_getElem? (i := 82) (by decide +kernel))) (by decide +kernel)
theorem tw_f_M_68 : Cond.fieldLink "MashEnzymes" 68 "MashEnzymes" "temperature" "D" ∈ wT := wT_mem (List.mem_append_right _ (List.mem_of_getElem? (i := 83) (by decide +kernel))) (by decide +kernel)
theorem tw_f_M_75 : Cond.fieldLink "MashEnzymes" 75 "MashEnzymes" "sourness" "D" ∈ wT := wT_mem (List.mem_append_right _ (List.mem_of_getElem? (i := 84) (by decide +kernel))) (by decide +kernel)
theorem tw_f_M_41 : Cond.fieldLink "MashEnzymes" 41 "MashEnzymes" "toldStarch" "D" ∈ wT := wT_mem (List.mem_append_right _ (List.mem_of_getElem? (i := 85) (by decide +kernel))) (by decide +kernel)
theorem tw_f_M_56 : Cond.fieldLink "MashEnzymes" 56 "MashEnzymes" "grainTold" "Z" ∈ wT := wT_mem (List.mem_append_right _ (List.mem_of_getElem? (i := 86) (by decide +kernel))) (by decide +kernel)
theorem tw_f_M_78 : Cond.fieldLink "MashEnzymes" 78 "MashEnzymes" "liquorTold" "Z" ∈ wT := wT_mem (List.mem_append_right _ (List.mem_of_getElem? (i := 87) (by decide +kernel))) (by decide +kernel)
theorem tw_m_L_15 : Cond.methodLink "MashEnzymesLaw" 15 yM_grain ∈ wT := wT_mem (List.mem_append_right _ (List.mem_of_getElem? (i := 115) (by decide +kernel))) (by decide +kernel)
theorem tw_i_yM_grain : Cond.instanceMethod yM_grain ∈ wT := wT_mem (List.mem_append_right _ (List.mem_of_getElem? (i := 116) (by decide +kernel))) (by decide +kernel)
theorem tw_s_yM_grain : Cond.selects "MashEnzymes" yM_grain yM_grain ∈ wT := wT_mem (List.mem_append_right _ (List.mem_of_getElem? (i := 117) (by decide +kernel))) (by decide +kernel)
theorem tw_c_yM_grain : Cond.code yM_grain bM_grain 10 (some .boolean) ∈ wT := wT_mem (List.mem_append_right _ (List.mem_of_getElem? (i := 118) rfl)) (by decide +kernel)
theorem tw_d_M_39 : Cond.constantDouble "MashEnzymes" 39 4652007308841189376 ∈ wT := wT_mem (List.mem_append_right _ (List.mem_of_getElem? (i := 119) (by decide +kernel))) (by decide +kernel)
theorem tw_f_M_45 : Cond.fieldLink "MashEnzymes" 45 "MashEnzymes" "GRAIN_PROTEIN" "[I" ∈ wT := wT_mem (List.mem_append_right _ (List.mem_of_getElem? (i := 120) (by decide +kernel))) (by decide +kernel)
theorem tw_ls_M_GRAIN_PROTEIN : Cond.laysStatic "MashEnzymes" "GRAIN_PROTEIN" "[I" ∈ lw_tbl := List.mem_append_right _ (List.mem_of_getElem? (i := 121) (by decide +kernel))
theorem tw_d_M_49 : Cond.constantDouble "MashEnzymes" 49 4625196817309499392 ∈ wT := wT_mem (List.mem_append_right _ (List.mem_of_getElem? (i := 122) (by decide +kernel))) (by decide +kernel)
theorem tw_f_M_51 : Cond.fieldLink "MashEnzymes" 51 "MashEnzymes" "GRAIN_ENZYMES" "[I" ∈ wT := wT_mem (List.mem_append_right _ (List.mem_of_getElem? (i := 123) (by decide +kernel))) (by decide +kernel)
theorem tw_ls_M_GRAIN_ENZYMES : Cond.laysStatic "MashEnzymes" "GRAIN_ENZYMES" "[I" ∈ lw_tbl := List.mem_append_right _ (List.mem_of_getElem? (i := 124) (by decide +kernel))
theorem tw_d_M_54 : Cond.constantDouble "MashEnzymes" 54 4620693217682128896 ∈ wT := wT_mem (List.mem_append_right _ (List.mem_of_getElem? (i := 125) (by decide +kernel))) (by decide +kernel)
theorem tw_m_L_20 : Cond.methodLink "MashEnzymesLaw" 20 yM_liquor ∈ wT := wT_mem (List.mem_append_right _ (List.mem_of_getElem? (i := 126) (by decide +kernel))) (by decide +kernel)
theorem tw_i_yM_liquor : Cond.instanceMethod yM_liquor ∈ wT := wT_mem (List.mem_append_right _ (List.mem_of_getElem? (i := 127) (by decide +kernel))) (by decide +kernel)
theorem tw_s_yM_liquor : Cond.selects "MashEnzymes" yM_liquor yM_liquor ∈ wT := wT_mem (List.mem_append_right _ (List.mem_of_getElem? (i := 128) (by decide +kernel))) (by decide +kernel)
theorem tw_c_yM_liquor : Cond.code yM_liquor bM_liquor 10 (some .boolean) ∈ wT := wT_mem (List.mem_append_right _ (List.mem_of_getElem? (i := 129) rfl)) (by decide +kernel)
theorem tw_d_M_60 : Cond.constantDouble "MashEnzymes" 60 4666723172467343360 ∈ wT := wT_mem (List.mem_append_right _ (List.mem_of_getElem? (i := 130) (by decide +kernel))) (by decide +kernel)
theorem tw_m_M_62 : Cond.methodLink "MashEnzymes" 62 yM_isTemperature ∈ wT := wT_mem (List.mem_append_right _ (List.mem_of_getElem? (i := 131) (by decide +kernel))) (by decide +kernel)
theorem tw_st_yM_isTemperature : Cond.static yM_isTemperature ∈ wT := wT_mem (List.mem_append_right _ (List.mem_of_getElem? (i := 132) (by decide +kernel))) (by decide +kernel)
theorem tw_c_yM_isTemperature : Cond.code yM_isTemperature bM_isTemperature 2 (some .boolean) ∈ wT := wT_mem (List.mem_append_right _ (List.mem_of_getElem? (i := 133) rfl)) (by decide +kernel)
theorem tw_d_M_109 : Cond.constantDouble "MashEnzymes" 109 4636737291354636288 ∈ wT := wT_mem (List.mem_append_right _ (List.mem_of_getElem? (i := 134) (by decide +kernel))) (by decide +kernel)
theorem tw_d_M_66 : Cond.constantDouble "MashEnzymes" 66 4613937818241073152 ∈ wT := wT_mem (List.mem_append_right _ (List.mem_of_getElem? (i := 135) (by decide +kernel))) (by decide +kernel)
theorem tw_m_M_71 : Cond.methodLink "MashEnzymes" 71 yM_mixed ∈ wT := wT_mem (List.mem_append_right _ (List.mem_of_getElem? (i := 136) (by decide +kernel))) (by decide +kernel)
theorem tw_st_yM_mixed : Cond.static yM_mixed ∈ wT := wT_mem (List.mem_append_right _ (List.mem_of_getElem? (i := 137) (by decide +kernel))) (by decide +kernel)
theorem tw_c_yM_mixed : Cond.code yM_mixed bM_mixed 10 (some .double) ∈ wT := wT_mem (List.mem_append_right _ (List.mem_of_getElem? (i := 138) rfl)) (by decide +kernel)
theorem tw_m_L_25 : Cond.methodLink "MashEnzymesLaw" 25 yM_enzyme ∈ wT := wT_mem (List.mem_append_right _ (List.mem_of_getElem? (i := 139) (by decide +kernel))) (by decide +kernel)
theorem tw_i_yM_enzyme : Cond.instanceMethod yM_enzyme ∈ wT := wT_mem (List.mem_append_right _ (List.mem_of_getElem? (i := 140) (by decide +kernel))) (by decide +kernel)
theorem tw_s_yM_enzyme : Cond.selects "MashEnzymes" yM_enzyme yM_enzyme ∈ wT := wT_mem (List.mem_append_right _ (List.mem_of_getElem? (i := 141) (by decide +kernel))) (by decide +kernel)
theorem tw_c_yM_enzyme : Cond.code yM_enzyme bM_enzyme 5 (some .boolean) ∈ wT := wT_mem (List.mem_append_right _ (List.mem_of_getElem? (i := 142) rfl)) (by decide +kernel)
theorem tw_m_L_30 : Cond.methodLink "MashEnzymesLaw" 30 yM_step ∈ wT := wT_mem (List.mem_append_right _ (List.mem_of_getElem? (i := 143) (by decide +kernel))) (by decide +kernel)
theorem tw_i_yM_step : Cond.instanceMethod yM_step ∈ wT := wT_mem (List.mem_append_right _ (List.mem_of_getElem? (i := 144) (by decide +kernel))) (by decide +kernel)
theorem tw_s_yM_step : Cond.selects "MashEnzymes" yM_step yM_step ∈ wT := wT_mem (List.mem_append_right _ (List.mem_of_getElem? (i := 145) (by decide +kernel))) (by decide +kernel)
theorem tw_c_yM_step : Cond.code yM_step bM_step 4 (some .boolean) ∈ wT := wT_mem (List.mem_append_right _ (List.mem_of_getElem? (i := 146) rfl)) (by decide +kernel)
theorem tw_k_M_85 : Cond.constant "MashEnzymes" 85 1000000 ∈ wT := wT_mem (List.mem_append_right _ (List.mem_of_getElem? (i := 147) (by decide +kernel))) (by decide +kernel)
theorem tw_m_M_86 : Cond.methodLink "MashEnzymes" 86 yH_append ∈ wT := wT_mem (List.mem_append_right _ (List.mem_of_getElem? (i := 148) (by decide +kernel))) (by decide +kernel)
theorem tw_i_yH_append : Cond.instanceMethod yH_append ∈ wT := wT_mem (List.mem_append_right _ (List.mem_of_getElem? (i := 149) (by decide +kernel))) (by decide +kernel)
theorem tw_s_yH_append : Cond.selects "MashEnzymes$Heating" yH_append yH_append ∈ wT := wT_mem (List.mem_append_right _ (List.mem_of_getElem? (i := 150) (by decide +kernel))) (by decide +kernel)
theorem tw_c_yH_append : Cond.code yH_append bH_append 4 (some .boolean) ∈ wT := wT_mem (List.mem_append_right _ (List.mem_of_getElem? (i := 151) rfl)) (by decide +kernel)
theorem tw_m_L_34 : Cond.methodLink "MashEnzymesLaw" 34 yM_run ∈ wT := wT_mem (List.mem_append_right _ (List.mem_of_getElem? (i := 152) (by decide +kernel))) (by decide +kernel)
theorem tw_i_yM_run : Cond.instanceMethod yM_run ∈ wT := wT_mem (List.mem_append_right _ (List.mem_of_getElem? (i := 153) (by decide +kernel))) (by decide +kernel)
theorem tw_s_yM_run : Cond.selects "MashEnzymes" yM_run yM_run ∈ wT := wT_mem (List.mem_append_right _ (List.mem_of_getElem? (i := 154) (by decide +kernel))) (by decide +kernel)
theorem tw_c_yM_run : Cond.code yM_run bM_run 3 (some .int) ∈ wT := wT_mem (List.mem_append_right _ (List.mem_of_getElem? (i := 155) rfl)) (by decide +kernel)
theorem tw_m_M_90 : Cond.methodLink "MashEnzymes" 90 yM_isEmpty ∈ wT := wT_mem (List.mem_append_right _ (List.mem_of_getElem? (i := 156) (by decide +kernel))) (by decide +kernel)
theorem tw_i_yM_isEmpty : Cond.instanceMethod yM_isEmpty ∈ wT := wT_mem (List.mem_append_right _ (List.mem_of_getElem? (i := 158) (by decide +kernel))) (by decide +kernel)
theorem tw_c_yM_isEmpty : Cond.code yM_isEmpty bM_isEmpty 1 (some .boolean) ∈ wT := wT_mem (List.mem_append_right _ (List.mem_of_getElem? (i := 159) rfl)) (by decide +kernel)
theorem tw_k_M_94 : Cond.constant "MashEnzymes" 94 100000 ∈ wT := wT_mem (List.mem_append_right _ (List.mem_of_getElem? (i := 160) (by decide +kernel))) (by decide +kernel)
theorem tw_m_M_95 : Cond.methodLink "MashEnzymes" 95 yM_passSecond ∈ wT := wT_mem (List.mem_append_right _ (List.mem_of_getElem? (i := 161) (by decide +kernel))) (by decide +kernel)
theorem tw_i_yM_passSecond : Cond.instanceMethod yM_passSecond ∈ wT := wT_mem (List.mem_append_right _ (List.mem_of_getElem? (i := 163) (by decide +kernel))) (by decide +kernel)
theorem tw_c_yM_passSecond : Cond.code yM_passSecond bM_passSecond 1 none ∈ wT := wT_mem (List.mem_append_right _ (List.mem_of_getElem? (i := 164) rfl)) (by decide +kernel)
theorem tw_m_M_111 : Cond.methodLink "MashEnzymes" 111 yH_heated ∈ wT := wT_mem (List.mem_append_right _ (List.mem_of_getElem? (i := 165) (by decide +kernel))) (by decide +kernel)
theorem tw_i_yH_heated : Cond.instanceMethod yH_heated ∈ wT := wT_mem (List.mem_append_right _ (List.mem_of_getElem? (i := 166) (by decide +kernel))) (by decide +kernel)
theorem tw_s_yH_heated : Cond.selects "MashEnzymes$Heating" yH_heated yH_heated ∈ wT := wT_mem (List.mem_append_right _ (List.mem_of_getElem? (i := 167) (by decide +kernel))) (by decide +kernel)
theorem tw_c_yH_heated : Cond.code yH_heated bH_heated 4 (some .double) ∈ wT := wT_mem (List.mem_append_right _ (List.mem_of_getElem? (i := 168) rfl)) (by decide +kernel)
theorem tw_m_M_115 : Cond.methodLink "MashEnzymes" 115 yQ_moveTo ∈ wT := wT_mem (List.mem_append_right _ (List.mem_of_getElem? (i := 169) (by decide +kernel))) (by decide +kernel)
theorem tw_i_yQ_moveTo : Cond.instanceMethod yQ_moveTo ∈ wT := wT_mem (List.mem_append_right _ (List.mem_of_getElem? (i := 170) (by decide +kernel))) (by decide +kernel)
theorem tw_s_yQ_moveTo : Cond.selects "MashEnzymes$Rows" yQ_moveTo yQ_moveTo ∈ wT := wT_mem (List.mem_append_right _ (List.mem_of_getElem? (i := 171) (by decide +kernel))) (by decide +kernel)
theorem tw_c_yQ_moveTo : Cond.code yQ_moveTo bQ_moveTo 3 none ∈ wT := wT_mem (List.mem_append_right _ (List.mem_of_getElem? (i := 172) rfl)) (by decide +kernel)
theorem tw_m_M_119 : Cond.methodLink "MashEnzymes" 119 yM_reckonActions ∈ wT := wT_mem (List.mem_append_right _ (List.mem_of_getElem? (i := 173) (by decide +kernel))) (by decide +kernel)
theorem tw_i_yM_reckonActions : Cond.instanceMethod yM_reckonActions ∈ wT := wT_mem (List.mem_append_right _ (List.mem_of_getElem? (i := 175) (by decide +kernel))) (by decide +kernel)
theorem tw_c_yM_reckonActions : Cond.code yM_reckonActions bM_reckonActions 8 none ∈ wT := wT_mem (List.mem_append_right _ (List.mem_of_getElem? (i := 176) rfl)) (by decide +kernel)
theorem tw_m_M_140 : Cond.methodLink "MashEnzymes" 140 yM_acidityFitness ∈ wT := wT_mem (List.mem_append_right _ (List.mem_of_getElem? (i := 177) (by decide +kernel))) (by decide +kernel)
theorem tw_i_yM_acidityFitness : Cond.instanceMethod yM_acidityFitness ∈ wT := wT_mem (List.mem_append_right _ (List.mem_of_getElem? (i := 179) (by decide +kernel))) (by decide +kernel)
theorem tw_c_yM_acidityFitness : Cond.code yM_acidityFitness bM_acidityFitness 3 (some .double) ∈ wT := wT_mem (List.mem_append_right _ (List.mem_of_getElem? (i := 180) rfl)) (by decide +kernel)
theorem tw_d_M_149 : Cond.constantDouble "MashEnzymes" 149 4617878467915022336 ∈ wT := wT_mem (List.mem_append_right _ (List.mem_of_getElem? (i := 181) (by decide +kernel))) (by decide +kernel)
theorem tw_d_M_151 : Cond.constantDouble "MashEnzymes" 151 4598175219545276416 ∈ wT := wT_mem (List.mem_append_right _ (List.mem_of_getElem? (i := 182) (by decide +kernel))) (by decide +kernel)
theorem tw_m_M_143 : Cond.methodLink "MashEnzymes" 143 yQ_rate ∈ wT := wT_mem (List.mem_append_right _ (List.mem_of_getElem? (i := 183) (by decide +kernel))) (by decide +kernel)
theorem tw_i_yQ_rate : Cond.instanceMethod yQ_rate ∈ wT := wT_mem (List.mem_append_right _ (List.mem_of_getElem? (i := 184) (by decide +kernel))) (by decide +kernel)
theorem tw_s_yQ_rate : Cond.selects "MashEnzymes$Rows" yQ_rate yQ_rate ∈ wT := wT_mem (List.mem_append_right _ (List.mem_of_getElem? (i := 185) (by decide +kernel))) (by decide +kernel)
theorem tw_c_yQ_rate : Cond.code yQ_rate bQ_rate 2 (some .double) ∈ wT := wT_mem (List.mem_append_right _ (List.mem_of_getElem? (i := 186) rfl)) (by decide +kernel)
theorem tw_d_M_147 : Cond.constantDouble "MashEnzymes" 147 4589168020290535424 ∈ wT := wT_mem (List.mem_append_right _ (List.mem_of_getElem? (i := 187) (by decide +kernel))) (by decide +kernel)
theorem tw_m_M_122 : Cond.methodLink "MashEnzymes" 122 yM_gelStarch ∈ wT := wT_mem (List.mem_append_right _ (List.mem_of_getElem? (i := 188) (by decide +kernel))) (by decide +kernel)
theorem tw_i_yM_gelStarch : Cond.instanceMethod yM_gelStarch ∈ wT := wT_mem (List.mem_append_right _ (List.mem_of_getElem? (i := 190) (by decide +kernel))) (by decide +kernel)
theorem tw_c_yM_gelStarch : Cond.code yM_gelStarch bM_gelStarch 3 none ∈ wT := wT_mem (List.mem_append_right _ (List.mem_of_getElem? (i := 191) rfl)) (by decide +kernel)
theorem tw_m_M_153 : Cond.methodLink "MashEnzymes" 153 yQ_gelling ∈ wT := wT_mem (List.mem_append_right _ (List.mem_of_getElem? (i := 192) (by decide +kernel))) (by decide +kernel)
theorem tw_i_yQ_gelling : Cond.instanceMethod yQ_gelling ∈ wT := wT_mem (List.mem_append_right _ (List.mem_of_getElem? (i := 193) (by decide +kernel))) (by decide +kernel)
theorem tw_s_yQ_gelling : Cond.selects "MashEnzymes$Rows" yQ_gelling yQ_gelling ∈ wT := wT_mem (List.mem_append_right _ (List.mem_of_getElem? (i := 194) (by decide +kernel))) (by decide +kernel)
theorem tw_c_yQ_gelling : Cond.code yQ_gelling bQ_gelling 1 (some .double) ∈ wT := wT_mem (List.mem_append_right _ (List.mem_of_getElem? (i := 195) rfl)) (by decide +kernel)
theorem tw_m_M_125 : Cond.methodLink "MashEnzymes" 125 yM_splitGelledStarch ∈ wT := wT_mem (List.mem_append_right _ (List.mem_of_getElem? (i := 196) (by decide +kernel))) (by decide +kernel)
theorem tw_i_yM_splitGelledStarch : Cond.instanceMethod yM_splitGelledStarch ∈ wT := wT_mem (List.mem_append_right _ (List.mem_of_getElem? (i := 198) (by decide +kernel))) (by decide +kernel)
theorem tw_c_yM_splitGelledStarch : Cond.code yM_splitGelledStarch bM_splitGelledStarch 3 none ∈ wT := wT_mem (List.mem_append_right _ (List.mem_of_getElem? (i := 199) rfl)) (by decide +kernel)
theorem tw_d_M_156 : Cond.constantDouble "MashEnzymes" 156 4604930618986332160 ∈ wT := wT_mem (List.mem_append_right _ (List.mem_of_getElem? (i := 200) (by decide +kernel))) (by decide +kernel)
theorem tw_m_M_128 : Cond.methodLink "MashEnzymes" 128 yM_splitDextrinsToMaltose ∈ wT := wT_mem (List.mem_append_right _ (List.mem_of_getElem? (i := 201) (by decide +kernel))) (by decide +kernel)
theorem tw_i_yM_splitDextrinsToMaltose : Cond.instanceMethod yM_splitDextrinsToMaltose ∈ wT := wT_mem (List.mem_append_right _ (List.mem_of_getElem? (i := 203) (by decide +kernel))) (by decide +kernel)
theorem tw_c_yM_splitDextrinsToMaltose : Cond.code yM_splitDextrinsToMaltose bM_splitDextrinsToMaltose 3 none ∈ wT := wT_mem (List.mem_append_right _ (List.mem_of_getElem? (i := 204) rfl)) (by decide +kernel)
theorem tw_m_M_158 : Cond.methodLink "MashEnzymes" 158 yM_lesser ∈ wT := wT_mem (List.mem_append_right _ (List.mem_of_getElem? (i := 205) (by decide +kernel))) (by decide +kernel)
theorem tw_st_yM_lesser : Cond.static yM_lesser ∈ wT := wT_mem (List.mem_append_right _ (List.mem_of_getElem? (i := 206) (by decide +kernel))) (by decide +kernel)
theorem tw_c_yM_lesser : Cond.code yM_lesser bM_lesser 4 (some .double) ∈ wT := wT_mem (List.mem_append_right _ (List.mem_of_getElem? (i := 207) rfl)) (by decide +kernel)
theorem tw_d_M_162 : Cond.constantDouble "MashEnzymes" 162 4607463893776728064 ∈ wT := wT_mem (List.mem_append_right _ (List.mem_of_getElem? (i := 208) (by decide +kernel))) (by decide +kernel)
theorem tw_m_M_131 : Cond.methodLink "MashEnzymes" 131 yM_splitDextrinsToGlucose ∈ wT := wT_mem (List.mem_append_right _ (List.mem_of_getElem? (i := 209) (by decide +kernel))) (by decide +kernel)
theorem tw_i_yM_splitDextrinsToGlucose : Cond.instanceMethod yM_splitDextrinsToGlucose ∈ wT := wT_mem (List.mem_append_right _ (List.mem_of_getElem? (i := 211) (by decide +kernel))) (by decide +kernel)
theorem tw_c_yM_splitDextrinsToGlucose : Cond.code yM_splitDextrinsToGlucose bM_splitDextrinsToGlucose 3 none ∈ wT := wT_mem (List.mem_append_right _ (List.mem_of_getElem? (i := 212) rfl)) (by decide +kernel)
theorem tw_d_M_164 : Cond.constantDouble "MashEnzymes" 164 4611686018427387904 ∈ wT := wT_mem (List.mem_append_right _ (List.mem_of_getElem? (i := 213) (by decide +kernel))) (by decide +kernel)
theorem tw_d_M_166 : Cond.constantDouble "MashEnzymes" 166 4607745368753438720 ∈ wT := wT_mem (List.mem_append_right _ (List.mem_of_getElem? (i := 214) (by decide +kernel))) (by decide +kernel)
theorem tw_d_M_168 : Cond.constantDouble "MashEnzymes" 168 4593671619917905920 ∈ wT := wT_mem (List.mem_append_right _ (List.mem_of_getElem? (i := 215) (by decide +kernel))) (by decide +kernel)
theorem tw_m_M_134 : Cond.methodLink "MashEnzymes" 134 yM_splitProtein ∈ wT := wT_mem (List.mem_append_right _ (List.mem_of_getElem? (i := 216) (by decide +kernel))) (by decide +kernel)
theorem tw_i_yM_splitProtein : Cond.instanceMethod yM_splitProtein ∈ wT := wT_mem (List.mem_append_right _ (List.mem_of_getElem? (i := 218) (by decide +kernel))) (by decide +kernel)
theorem tw_c_yM_splitProtein : Cond.code yM_splitProtein bM_splitProtein 3 none ∈ wT := wT_mem (List.mem_append_right _ (List.mem_of_getElem? (i := 219) rfl)) (by decide +kernel)
theorem tw_m_M_137 : Cond.methodLink "MashEnzymes" 137 yM_decayEnzymes ∈ wT := wT_mem (List.mem_append_right _ (List.mem_of_getElem? (i := 220) (by decide +kernel))) (by decide +kernel)
theorem tw_i_yM_decayEnzymes : Cond.instanceMethod yM_decayEnzymes ∈ wT := wT_mem (List.mem_append_right _ (List.mem_of_getElem? (i := 222) (by decide +kernel))) (by decide +kernel)
theorem tw_c_yM_decayEnzymes : Cond.code yM_decayEnzymes bM_decayEnzymes 4 none ∈ wT := wT_mem (List.mem_append_right _ (List.mem_of_getElem? (i := 223) rfl)) (by decide +kernel)
theorem tw_m_M_170 : Cond.methodLink "MashEnzymes" 170 yQ_decay ∈ wT := wT_mem (List.mem_append_right _ (List.mem_of_getElem? (i := 224) (by decide +kernel))) (by decide +kernel)
theorem tw_i_yQ_decay : Cond.instanceMethod yQ_decay ∈ wT := wT_mem (List.mem_append_right _ (List.mem_of_getElem? (i := 225) (by decide +kernel))) (by decide +kernel)
theorem tw_s_yQ_decay : Cond.selects "MashEnzymes$Rows" yQ_decay yQ_decay ∈ wT := wT_mem (List.mem_append_right _ (List.mem_of_getElem? (i := 226) (by decide +kernel))) (by decide +kernel)
theorem tw_c_yQ_decay : Cond.code yQ_decay bQ_decay 2 (some .double) ∈ wT := wT_mem (List.mem_append_right _ (List.mem_of_getElem? (i := 227) rfl)) (by decide +kernel)
theorem tw_m_L_39 : Cond.methodLink "MashEnzymesLaw" 39 yM_sugar ∈ wT := wT_mem (List.mem_append_right _ (List.mem_of_getElem? (i := 228) (by decide +kernel))) (by decide +kernel)
theorem tw_i_yM_sugar : Cond.instanceMethod yM_sugar ∈ wT := wT_mem (List.mem_append_right _ (List.mem_of_getElem? (i := 229) (by decide +kernel))) (by decide +kernel)
theorem tw_s_yM_sugar : Cond.selects "MashEnzymes" yM_sugar yM_sugar ∈ wT := wT_mem (List.mem_append_right _ (List.mem_of_getElem? (i := 230) (by decide +kernel))) (by decide +kernel)
theorem tw_c_yM_sugar : Cond.code yM_sugar bM_sugar 2 (some .double) ∈ wT := wT_mem (List.mem_append_right _ (List.mem_of_getElem? (i := 231) rfl)) (by decide +kernel)
theorem tw_d_M_98 : Cond.constantDouble "MashEnzymes" 98 13830554455654793216 ∈ wT := wT_mem (List.mem_append_right _ (List.mem_of_getElem? (i := 232) (by decide +kernel))) (by decide +kernel)
theorem tw_m_L_44 : Cond.methodLink "MashEnzymesLaw" 44 yM_starch ∈ wT := wT_mem (List.mem_append_right _ (List.mem_of_getElem? (i := 233) (by decide +kernel))) (by decide +kernel)
theorem tw_i_yM_starch : Cond.instanceMethod yM_starch ∈ wT := wT_mem (List.mem_append_right _ (List.mem_of_getElem? (i := 234) (by decide +kernel))) (by decide +kernel)
theorem tw_s_yM_starch : Cond.selects "MashEnzymes" yM_starch yM_starch ∈ wT := wT_mem (List.mem_append_right _ (List.mem_of_getElem? (i := 235) (by decide +kernel))) (by decide +kernel)
theorem tw_c_yM_starch : Cond.code yM_starch bM_starch 1 (some .double) ∈ wT := wT_mem (List.mem_append_right _ (List.mem_of_getElem? (i := 236) rfl)) (by decide +kernel)
theorem tw_m_L_49 : Cond.methodLink "MashEnzymesLaw" 49 yM_enzymeLeft ∈ wT := wT_mem (List.mem_append_right _ (List.mem_of_getElem? (i := 237) (by decide +kernel))) (by decide +kernel)
theorem tw_i_yM_enzymeLeft : Cond.instanceMethod yM_enzymeLeft ∈ wT := wT_mem (List.mem_append_right _ (List.mem_of_getElem? (i := 238) (by decide +kernel))) (by decide +kernel)
theorem tw_s_yM_enzymeLeft : Cond.selects "MashEnzymes" yM_enzymeLeft yM_enzymeLeft ∈ wT := wT_mem (List.mem_append_right _ (List.mem_of_getElem? (i := 239) (by decide +kernel))) (by decide +kernel)
theorem tw_c_yM_enzymeLeft : Cond.code yM_enzymeLeft bM_enzymeLeft 2 (some .double) ∈ wT := wT_mem (List.mem_append_right _ (List.mem_of_getElem? (i := 240) rfl)) (by decide +kernel)
theorem tw_m_L_53 : Cond.methodLink "MashEnzymesLaw" 53 yM_degrees ∈ wT := wT_mem (List.mem_append_right _ (List.mem_of_getElem? (i := 241) (by decide +kernel))) (by decide +kernel)
theorem tw_i_yM_degrees : Cond.instanceMethod yM_degrees ∈ wT := wT_mem (List.mem_append_right _ (List.mem_of_getElem? (i := 242) (by decide +kernel))) (by decide +kernel)
theorem tw_s_yM_degrees : Cond.selects "MashEnzymes" yM_degrees yM_degrees ∈ wT := wT_mem (List.mem_append_right _ (List.mem_of_getElem? (i := 243) (by decide +kernel))) (by decide +kernel)
theorem tw_c_yM_degrees : Cond.code yM_degrees bM_degrees 1 (some .double) ∈ wT := wT_mem (List.mem_append_right _ (List.mem_of_getElem? (i := 244) rfl)) (by decide +kernel)
theorem tw_m_L_57 : Cond.methodLink "MashEnzymesLaw" 57 yM_take ∈ wT := wT_mem (List.mem_append_right _ (List.mem_of_getElem? (i := 245) (by decide +kernel))) (by decide +kernel)
theorem tw_i_yM_take : Cond.instanceMethod yM_take ∈ wT := wT_mem (List.mem_append_right _ (List.mem_of_getElem? (i := 246) (by decide +kernel))) (by decide +kernel)
theorem tw_s_yM_take : Cond.selects "MashEnzymes" yM_take yM_take ∈ wT := wT_mem (List.mem_append_right _ (List.mem_of_getElem? (i := 247) (by decide +kernel))) (by decide +kernel)
theorem tw_c_yM_take : Cond.code yM_take bM_take 6 (some .int) ∈ wT := wT_mem (List.mem_append_right _ (List.mem_of_getElem? (i := 248) rfl)) (by decide +kernel)
theorem tw_m_L_62 : Cond.methodLink "MashEnzymesLaw" 62 yM_back ∈ wT := wT_mem (List.mem_append_right _ (List.mem_of_getElem? (i := 249) (by decide +kernel))) (by decide +kernel)
theorem tw_i_yM_back : Cond.instanceMethod yM_back ∈ wT := wT_mem (List.mem_append_right _ (List.mem_of_getElem? (i := 250) (by decide +kernel))) (by decide +kernel)
theorem tw_s_yM_back : Cond.selects "MashEnzymes" yM_back yM_back ∈ wT := wT_mem (List.mem_append_right _ (List.mem_of_getElem? (i := 251) (by decide +kernel))) (by decide +kernel)
theorem tw_c_yM_back : Cond.code yM_back bM_back 6 (some .boolean) ∈ wT := wT_mem (List.mem_append_right _ (List.mem_of_getElem? (i := 252) rfl)) (by decide +kernel)
theorem tw_m_L_66 : Cond.methodLink "MashEnzymesLaw" 66 yM_water ∈ wT := wT_mem (List.mem_append_right _ (List.mem_of_getElem? (i := 253) (by decide +kernel))) (by decide +kernel)
theorem tw_i_yM_water : Cond.instanceMethod yM_water ∈ wT := wT_mem (List.mem_append_right _ (List.mem_of_getElem? (i := 254) (by decide +kernel))) (by decide +kernel)
theorem tw_s_yM_water : Cond.selects "MashEnzymes" yM_water yM_water ∈ wT := wT_mem (List.mem_append_right _ (List.mem_of_getElem? (i := 255) (by decide +kernel))) (by decide +kernel)
theorem tw_c_yM_water : Cond.code yM_water bM_water 1 (some .double) ∈ wT := wT_mem (List.mem_append_right _ (List.mem_of_getElem? (i := 256) rfl)) (by decide +kernel)
theorem tw_m_L_70 : Cond.methodLink "MashEnzymesLaw" 70 yM_converted ∈ wT := wT_mem (List.mem_append_right _ (List.mem_of_getElem? (i := 257) (by decide +kernel))) (by decide +kernel)
theorem tw_i_yM_converted : Cond.instanceMethod yM_converted ∈ wT := wT_mem (List.mem_append_right _ (List.mem_of_getElem? (i := 258) (by decide +kernel))) (by decide +kernel)
theorem tw_s_yM_converted : Cond.selects "MashEnzymes" yM_converted yM_converted ∈ wT := wT_mem (List.mem_append_right _ (List.mem_of_getElem? (i := 259) (by decide +kernel))) (by decide +kernel)
theorem tw_c_yM_converted : Cond.code yM_converted bM_converted 1 (some .boolean) ∈ wT := wT_mem (List.mem_append_right _ (List.mem_of_getElem? (i := 260) rfl)) (by decide +kernel)
theorem tw_d_M_103 : Cond.constantDouble "MashEnzymes" 103 4638707616191610880 ∈ wT := wT_mem (List.mem_append_right _ (List.mem_of_getElem? (i := 261) (by decide +kernel))) (by decide +kernel)
theorem tw_m_M_105 : Cond.methodLink "MashEnzymes" 105 yM_starch ∈ wT := wT_mem (List.mem_append_right _ (List.mem_of_getElem? (i := 262) (by decide +kernel))) (by decide +kernel)
theorem tw_cl_L_10 : Cond.classLink "MashEnzymesLaw" 10 "MashEnzymesModel" ∈ wT := wT_mem (List.mem_append_right _ (List.mem_of_getElem? (i := 263) (by decide +kernel))) (by decide +kernel)
theorem tw_n_N : Cond.instantiable "MashEnzymesModel" 14 ∈ wT := wT_mem (List.mem_append_right _ (List.mem_of_getElem? (i := 264) (by decide +kernel))) (by decide +kernel)
theorem tw_m_L_12 : Cond.methodLink "MashEnzymesLaw" 12 yN_init ∈ wT := wT_mem (List.mem_append_right _ (List.mem_of_getElem? (i := 265) (by decide +kernel))) (by decide +kernel)
theorem tw_i_yN_init : Cond.instanceMethod yN_init ∈ wT := wT_mem (List.mem_append_right _ (List.mem_of_getElem? (i := 266) (by decide +kernel))) (by decide +kernel)
theorem tw_c_yN_init : Cond.code yN_init bN_init 1 none ∈ wT := wT_mem (List.mem_append_right _ (List.mem_of_getElem? (i := 267) rfl)) (by decide +kernel)
theorem tw_m_N_1 : Cond.methodLink "MashEnzymesModel" 1 objectInit ∈ wT := wT_mem (List.mem_append_right _ (List.mem_of_getElem? (i := 268) (by decide +kernel))) (by decide +kernel)
theorem tw_f_N_9 : Cond.fieldLink "MashEnzymesModel" 9 "MashEnzymesModel" "has" "[D" ∈ wT := wT_mem (List.mem_append_right _ (List.mem_of_getElem? (i := 269) (by decide +kernel))) (by decide +kernel)
theorem tw_f_N_62 : Cond.fieldLink "MashEnzymesModel" 62 "MashEnzymesModel" "degrees" "D" ∈ wT := wT_mem (List.mem_append_right _ (List.mem_of_getElem? (i := 270) (by decide +kernel))) (by decide +kernel)
theorem tw_f_N_65 : Cond.fieldLink "MashEnzymesModel" 65 "MashEnzymesModel" "acidity" "D" ∈ wT := wT_mem (List.mem_append_right _ (List.mem_of_getElem? (i := 271) (by decide +kernel))) (by decide +kernel)
theorem tw_f_N_50 : Cond.fieldLink "MashEnzymesModel" 50 "MashEnzymesModel" "grainTold" "Z" ∈ wT := wT_mem (List.mem_append_right _ (List.mem_of_getElem? (i := 272) (by decide +kernel))) (by decide +kernel)
theorem tw_f_N_68 : Cond.fieldLink "MashEnzymesModel" 68 "MashEnzymesModel" "liquorTold" "Z" ∈ wT := wT_mem (List.mem_append_right _ (List.mem_of_getElem? (i := 273) (by decide +kernel))) (by decide +kernel)
theorem tw_f_N_32 : Cond.fieldLink "MashEnzymesModel" 32 "MashEnzymesModel" "starchTold" "D" ∈ wT := wT_mem (List.mem_append_right _ (List.mem_of_getElem? (i := 274) (by decide +kernel))) (by decide +kernel)
theorem tw_f_N_71 : Cond.fieldLink "MashEnzymesModel" 71 "MashEnzymesModel" "now" "I" ∈ wT := wT_mem (List.mem_append_right _ (List.mem_of_getElem? (i := 275) (by decide +kernel))) (by decide +kernel)
theorem tw_f_N_75 : Cond.fieldLink "MashEnzymesModel" 75 "MashEnzymesModel" "steps" "I" ∈ wT := wT_mem (List.mem_append_right _ (List.mem_of_getElem? (i := 276) (by decide +kernel))) (by decide +kernel)
theorem tw_f_N_13 : Cond.fieldLink "MashEnzymesModel" 13 "MashEnzymesModel" "seconds" "[I" ∈ wT := wT_mem (List.mem_append_right _ (List.mem_of_getElem? (i := 277) (by decide +kernel))) (by decide +kernel)
theorem tw_f_N_17 : Cond.fieldLink "MashEnzymesModel" 17 "MashEnzymesModel" "goals" "[D" ∈ wT := wT_mem (List.mem_append_right _ (List.mem_of_getElem? (i := 278) (by decide +kernel))) (by decide +kernel)
theorem tw_f_N_111 : Cond.fieldLink "MashEnzymesModel" 111 "MashEnzymesModel" "taken" "I" ∈ wT := wT_mem (List.mem_append_right _ (List.mem_of_getElem? (i := 279) (by decide +kernel))) (by decide +kernel)
theorem tw_f_N_20 : Cond.fieldLink "MashEnzymesModel" 20 "MashEnzymesModel" "parts" "[D" ∈ wT := wT_mem (List.mem_append_right _ (List.mem_of_getElem? (i := 280) (by decide +kernel))) (by decide +kernel)
theorem tw_f_N_23 : Cond.fieldLink "MashEnzymesModel" 23 "MashEnzymesModel" "returned" "[Z" ∈ wT := wT_mem (List.mem_append_right _ (List.mem_of_getElem? (i := 281) (by decide +kernel))) (by decide +kernel)
theorem tw_f_N_27 : Cond.fieldLink "MashEnzymesModel" 27 "MashEnzymesModel" "f" "[D" ∈ wT := wT_mem (List.mem_append_right _ (List.mem_of_getElem? (i := 282) (by decide +kernel))) (by decide +kernel)
theorem tw_m_L_19 : Cond.methodLink "MashEnzymesLaw" 19 yN_grain ∈ wT := wT_mem (List.mem_append_right _ (List.mem_of_getElem? (i := 312) (by decide +kernel))) (by decide +kernel)
theorem tw_i_yN_grain : Cond.instanceMethod yN_grain ∈ wT := wT_mem (List.mem_append_right _ (List.mem_of_getElem? (i := 313) (by decide +kernel))) (by decide +kernel)
theorem tw_s_yN_grain : Cond.selects "MashEnzymesModel" yN_grain yN_grain ∈ wT := wT_mem (List.mem_append_right _ (List.mem_of_getElem? (i := 314) (by decide +kernel))) (by decide +kernel)
theorem tw_c_yN_grain : Cond.code yN_grain bN_grain 6 (some .boolean) ∈ wT := wT_mem (List.mem_append_right _ (List.mem_of_getElem? (i := 315) rfl)) (by decide +kernel)
theorem tw_d_N_30 : Cond.constantDouble "MashEnzymesModel" 30 4652007308841189376 ∈ wT := wT_mem (List.mem_append_right _ (List.mem_of_getElem? (i := 316) (by decide +kernel))) (by decide +kernel)
theorem tw_d_N_36 : Cond.constantDouble "MashEnzymesModel" 36 4593671619917905920 ∈ wT := wT_mem (List.mem_append_right _ (List.mem_of_getElem? (i := 317) (by decide +kernel))) (by decide +kernel)
theorem tw_d_N_38 : Cond.constantDouble "MashEnzymesModel" 38 4589168020290535424 ∈ wT := wT_mem (List.mem_append_right _ (List.mem_of_getElem? (i := 318) (by decide +kernel))) (by decide +kernel)
theorem tw_d_N_40 : Cond.constantDouble "MashEnzymesModel" 40 4595923419731591168 ∈ wT := wT_mem (List.mem_append_right _ (List.mem_of_getElem? (i := 319) (by decide +kernel))) (by decide +kernel)
theorem tw_d_N_42 : Cond.constantDouble "MashEnzymesModel" 42 4604930618986332160 ∈ wT := wT_mem (List.mem_append_right _ (List.mem_of_getElem? (i := 320) (by decide +kernel))) (by decide +kernel)
theorem tw_d_N_44 : Cond.constantDouble "MashEnzymesModel" 44 4598175219545276416 ∈ wT := wT_mem (List.mem_append_right _ (List.mem_of_getElem? (i := 321) (by decide +kernel))) (by decide +kernel)
theorem tw_d_N_46 : Cond.constantDouble "MashEnzymesModel" 46 4602678819172646912 ∈ wT := wT_mem (List.mem_append_right _ (List.mem_of_getElem? (i := 322) (by decide +kernel))) (by decide +kernel)
theorem tw_d_N_48 : Cond.constantDouble "MashEnzymesModel" 48 4600427019358961664 ∈ wT := wT_mem (List.mem_append_right _ (List.mem_of_getElem? (i := 323) (by decide +kernel))) (by decide +kernel)
theorem tw_m_L_24 : Cond.methodLink "MashEnzymesLaw" 24 yN_liquor ∈ wT := wT_mem (List.mem_append_right _ (List.mem_of_getElem? (i := 324) (by decide +kernel))) (by decide +kernel)
theorem tw_i_yN_liquor : Cond.instanceMethod yN_liquor ∈ wT := wT_mem (List.mem_append_right _ (List.mem_of_getElem? (i := 325) (by decide +kernel))) (by decide +kernel)
theorem tw_s_yN_liquor : Cond.selects "MashEnzymesModel" yN_liquor yN_liquor ∈ wT := wT_mem (List.mem_append_right _ (List.mem_of_getElem? (i := 326) (by decide +kernel))) (by decide +kernel)
theorem tw_c_yN_liquor : Cond.code yN_liquor bN_liquor 7 (some .boolean) ∈ wT := wT_mem (List.mem_append_right _ (List.mem_of_getElem? (i := 327) rfl)) (by decide +kernel)
theorem tw_d_N_54 : Cond.constantDouble "MashEnzymesModel" 54 4666723172467343360 ∈ wT := wT_mem (List.mem_append_right _ (List.mem_of_getElem? (i := 328) (by decide +kernel))) (by decide +kernel)
theorem tw_d_N_56 : Cond.constantDouble "MashEnzymesModel" 56 4636737291354636288 ∈ wT := wT_mem (List.mem_append_right _ (List.mem_of_getElem? (i := 329) (by decide +kernel))) (by decide +kernel)
theorem tw_d_N_58 : Cond.constantDouble "MashEnzymesModel" 58 4613937818241073152 ∈ wT := wT_mem (List.mem_append_right _ (List.mem_of_getElem? (i := 330) (by decide +kernel))) (by decide +kernel)
theorem tw_d_N_60 : Cond.constantDouble "MashEnzymesModel" 60 4620693217682128896 ∈ wT := wT_mem (List.mem_append_right _ (List.mem_of_getElem? (i := 331) (by decide +kernel))) (by decide +kernel)
theorem tw_m_L_29 : Cond.methodLink "MashEnzymesLaw" 29 yN_enzyme ∈ wT := wT_mem (List.mem_append_right _ (List.mem_of_getElem? (i := 332) (by decide +kernel))) (by decide +kernel)
theorem tw_i_yN_enzyme : Cond.instanceMethod yN_enzyme ∈ wT := wT_mem (List.mem_append_right _ (List.mem_of_getElem? (i := 333) (by decide +kernel))) (by decide +kernel)
theorem tw_s_yN_enzyme : Cond.selects "MashEnzymesModel" yN_enzyme yN_enzyme ∈ wT := wT_mem (List.mem_append_right _ (List.mem_of_getElem? (i := 334) (by decide +kernel))) (by decide +kernel)
theorem tw_c_yN_enzyme : Cond.code yN_enzyme bN_enzyme 4 (some .boolean) ∈ wT := wT_mem (List.mem_append_right _ (List.mem_of_getElem? (i := 335) rfl)) (by decide +kernel)
theorem tw_m_L_33 : Cond.methodLink "MashEnzymesLaw" 33 yN_step ∈ wT := wT_mem (List.mem_append_right _ (List.mem_of_getElem? (i := 336) (by decide +kernel))) (by decide +kernel)
theorem tw_i_yN_step : Cond.instanceMethod yN_step ∈ wT := wT_mem (List.mem_append_right _ (List.mem_of_getElem? (i := 337) (by decide +kernel))) (by decide +kernel)
theorem tw_s_yN_step : Cond.selects "MashEnzymesModel" yN_step yN_step ∈ wT := wT_mem (List.mem_append_right _ (List.mem_of_getElem? (i := 338) (by decide +kernel))) (by decide +kernel)
theorem tw_c_yN_step : Cond.code yN_step bN_step 5 (some .boolean) ∈ wT := wT_mem (List.mem_append_right _ (List.mem_of_getElem? (i := 339) rfl)) (by decide +kernel)
theorem tw_k_N_78 : Cond.constant "MashEnzymesModel" 78 1000000 ∈ wT := wT_mem (List.mem_append_right _ (List.mem_of_getElem? (i := 340) (by decide +kernel))) (by decide +kernel)
theorem tw_m_L_38 : Cond.methodLink "MashEnzymesLaw" 38 yN_run ∈ wT := wT_mem (List.mem_append_right _ (List.mem_of_getElem? (i := 341) (by decide +kernel))) (by decide +kernel)
theorem tw_i_yN_run : Cond.instanceMethod yN_run ∈ wT := wT_mem (List.mem_append_right _ (List.mem_of_getElem? (i := 342) (by decide +kernel))) (by decide +kernel)
theorem tw_s_yN_run : Cond.selects "MashEnzymesModel" yN_run yN_run ∈ wT := wT_mem (List.mem_append_right _ (List.mem_of_getElem? (i := 343) (by decide +kernel))) (by decide +kernel)
theorem tw_c_yN_run : Cond.code yN_run bN_run 3 (some .int) ∈ wT := wT_mem (List.mem_append_right _ (List.mem_of_getElem? (i := 344) rfl)) (by decide +kernel)
theorem tw_m_N_101 : Cond.methodLink "MashEnzymesModel" 101 yN_isEmpty ∈ wT := wT_mem (List.mem_append_right _ (List.mem_of_getElem? (i := 345) (by decide +kernel))) (by decide +kernel)
theorem tw_i_yN_isEmpty : Cond.instanceMethod yN_isEmpty ∈ wT := wT_mem (List.mem_append_right _ (List.mem_of_getElem? (i := 347) (by decide +kernel))) (by decide +kernel)
theorem tw_c_yN_isEmpty : Cond.code yN_isEmpty bN_isEmpty 1 (some .boolean) ∈ wT := wT_mem (List.mem_append_right _ (List.mem_of_getElem? (i := 348) rfl)) (by decide +kernel)
theorem tw_k_N_105 : Cond.constant "MashEnzymesModel" 105 100000 ∈ wT := wT_mem (List.mem_append_right _ (List.mem_of_getElem? (i := 349) (by decide +kernel))) (by decide +kernel)
theorem tw_m_N_106 : Cond.methodLink "MashEnzymesModel" 106 yN_second ∈ wT := wT_mem (List.mem_append_right _ (List.mem_of_getElem? (i := 350) (by decide +kernel))) (by decide +kernel)
theorem tw_i_yN_second : Cond.instanceMethod yN_second ∈ wT := wT_mem (List.mem_append_right _ (List.mem_of_getElem? (i := 352) (by decide +kernel))) (by decide +kernel)
theorem tw_c_yN_second : Cond.code yN_second bN_second 15 none ∈ wT := wT_mem (List.mem_append_right _ (List.mem_of_getElem? (i := 353) rfl)) (by decide +kernel)
theorem tw_d_N_89 : Cond.constantDouble "MashEnzymesModel" 89 4617878467915022336 ∈ wT := wT_mem (List.mem_append_right _ (List.mem_of_getElem? (i := 354) (by decide +kernel))) (by decide +kernel)
theorem tw_m_N_91 : Cond.methodLink "MashEnzymesModel" 91 yN_row ∈ wT := wT_mem (List.mem_append_right _ (List.mem_of_getElem? (i := 355) (by decide +kernel))) (by decide +kernel)
theorem tw_i_yN_row : Cond.instanceMethod yN_row ∈ wT := wT_mem (List.mem_append_right _ (List.mem_of_getElem? (i := 357) (by decide +kernel))) (by decide +kernel)
theorem tw_c_yN_row : Cond.code yN_row bN_row 9 (some .double) ∈ wT := wT_mem (List.mem_append_right _ (List.mem_of_getElem? (i := 358) rfl)) (by decide +kernel)
theorem tw_d_N_79 : Cond.constantDouble "MashEnzymesModel" 79 4661225614328463360 ∈ wT := wT_mem (List.mem_append_right _ (List.mem_of_getElem? (i := 359) (by decide +kernel))) (by decide +kernel)
theorem tw_f_N_81 : Cond.fieldLink "MashEnzymesModel" 81 "MashEnzymesModel" "ROWS" "[I" ∈ wT := wT_mem (List.mem_append_right _ (List.mem_of_getElem? (i := 360) (by decide +kernel))) (by decide +kernel)
theorem tw_ls_N_ROWS : Cond.laysStatic "MashEnzymesModel" "ROWS" "[I" ∈ lw_tbl := List.mem_append_right _ (List.mem_of_getElem? (i := 361) (by decide +kernel))
theorem tw_d_N_84 : Cond.constantDouble "MashEnzymesModel" 84 4636033603912859648 ∈ wT := wT_mem (List.mem_append_right _ (List.mem_of_getElem? (i := 362) (by decide +kernel))) (by decide +kernel)
theorem tw_f_N_86 : Cond.fieldLink "MashEnzymesModel" 86 "MashEnzymesModel" "AT" "[I" ∈ wT := wT_mem (List.mem_append_right _ (List.mem_of_getElem? (i := 363) (by decide +kernel))) (by decide +kernel)
theorem tw_ls_N_AT : Cond.laysStatic "MashEnzymesModel" "AT" "[I" ∈ lw_tbl := List.mem_append_right _ (List.mem_of_getElem? (i := 364) (by decide +kernel))
theorem tw_d_N_95 : Cond.constantDouble "MashEnzymesModel" 95 4607463893776728064 ∈ wT := wT_mem (List.mem_append_right _ (List.mem_of_getElem? (i := 365) (by decide +kernel))) (by decide +kernel)
theorem tw_d_N_97 : Cond.constantDouble "MashEnzymesModel" 97 4611686018427387904 ∈ wT := wT_mem (List.mem_append_right _ (List.mem_of_getElem? (i := 366) (by decide +kernel))) (by decide +kernel)
theorem tw_d_N_99 : Cond.constantDouble "MashEnzymesModel" 99 4607745368753438720 ∈ wT := wT_mem (List.mem_append_right _ (List.mem_of_getElem? (i := 367) (by decide +kernel))) (by decide +kernel)
theorem tw_m_L_43 : Cond.methodLink "MashEnzymesLaw" 43 yN_sugar ∈ wT := wT_mem (List.mem_append_right _ (List.mem_of_getElem? (i := 368) (by decide +kernel))) (by decide +kernel)
theorem tw_i_yN_sugar : Cond.instanceMethod yN_sugar ∈ wT := wT_mem (List.mem_append_right _ (List.mem_of_getElem? (i := 369) (by decide +kernel))) (by decide +kernel)
theorem tw_s_yN_sugar : Cond.selects "MashEnzymesModel" yN_sugar yN_sugar ∈ wT := wT_mem (List.mem_append_right _ (List.mem_of_getElem? (i := 370) (by decide +kernel))) (by decide +kernel)
theorem tw_c_yN_sugar : Cond.code yN_sugar bN_sugar 2 (some .double) ∈ wT := wT_mem (List.mem_append_right _ (List.mem_of_getElem? (i := 371) rfl)) (by decide +kernel)
theorem tw_d_N_109 : Cond.constantDouble "MashEnzymesModel" 109 13830554455654793216 ∈ wT := wT_mem (List.mem_append_right _ (List.mem_of_getElem? (i := 372) (by decide +kernel))) (by decide +kernel)
theorem tw_m_L_48 : Cond.methodLink "MashEnzymesLaw" 48 yN_starch ∈ wT := wT_mem (List.mem_append_right _ (List.mem_of_getElem? (i := 373) (by decide +kernel))) (by decide +kernel)
theorem tw_i_yN_starch : Cond.instanceMethod yN_starch ∈ wT := wT_mem (List.mem_append_right _ (List.mem_of_getElem? (i := 374) (by decide +kernel))) (by decide +kernel)
theorem tw_s_yN_starch : Cond.selects "MashEnzymesModel" yN_starch yN_starch ∈ wT := wT_mem (List.mem_append_right _ (List.mem_of_getElem? (i := 375) (by decide +kernel))) (by decide +kernel)
theorem tw_c_yN_starch : Cond.code yN_starch bN_starch 1 (some .double) ∈ wT := wT_mem (List.mem_append_right _ (List.mem_of_getElem? (i := 376) rfl)) (by decide +kernel)
theorem tw_m_L_52 : Cond.methodLink "MashEnzymesLaw" 52 yN_enzymeLeft ∈ wT := wT_mem (List.mem_append_right _ (List.mem_of_getElem? (i := 377) (by decide +kernel))) (by decide +kernel)
theorem tw_i_yN_enzymeLeft : Cond.instanceMethod yN_enzymeLeft ∈ wT := wT_mem (List.mem_append_right _ (List.mem_of_getElem? (i := 378) (by decide +kernel))) (by decide +kernel)
theorem tw_s_yN_enzymeLeft : Cond.selects "MashEnzymesModel" yN_enzymeLeft yN_enzymeLeft ∈ wT := wT_mem (List.mem_append_right _ (List.mem_of_getElem? (i := 379) (by decide +kernel))) (by decide +kernel)
theorem tw_c_yN_enzymeLeft : Cond.code yN_enzymeLeft bN_enzymeLeft 2 (some .double) ∈ wT := wT_mem (List.mem_append_right _ (List.mem_of_getElem? (i := 380) rfl)) (by decide +kernel)
theorem tw_m_L_56 : Cond.methodLink "MashEnzymesLaw" 56 yN_degrees ∈ wT := wT_mem (List.mem_append_right _ (List.mem_of_getElem? (i := 381) (by decide +kernel))) (by decide +kernel)
theorem tw_i_yN_degrees : Cond.instanceMethod yN_degrees ∈ wT := wT_mem (List.mem_append_right _ (List.mem_of_getElem? (i := 382) (by decide +kernel))) (by decide +kernel)
theorem tw_s_yN_degrees : Cond.selects "MashEnzymesModel" yN_degrees yN_degrees ∈ wT := wT_mem (List.mem_append_right _ (List.mem_of_getElem? (i := 383) (by decide +kernel))) (by decide +kernel)
theorem tw_c_yN_degrees : Cond.code yN_degrees bN_degrees 1 (some .double) ∈ wT := wT_mem (List.mem_append_right _ (List.mem_of_getElem? (i := 384) rfl)) (by decide +kernel)
theorem tw_m_L_61 : Cond.methodLink "MashEnzymesLaw" 61 yN_take ∈ wT := wT_mem (List.mem_append_right _ (List.mem_of_getElem? (i := 385) (by decide +kernel))) (by decide +kernel)
theorem tw_i_yN_take : Cond.instanceMethod yN_take ∈ wT := wT_mem (List.mem_append_right _ (List.mem_of_getElem? (i := 386) (by decide +kernel))) (by decide +kernel)
theorem tw_s_yN_take : Cond.selects "MashEnzymesModel" yN_take yN_take ∈ wT := wT_mem (List.mem_append_right _ (List.mem_of_getElem? (i := 387) (by decide +kernel))) (by decide +kernel)
theorem tw_c_yN_take : Cond.code yN_take bN_take 4 (some .int) ∈ wT := wT_mem (List.mem_append_right _ (List.mem_of_getElem? (i := 388) rfl)) (by decide +kernel)
theorem tw_m_L_65 : Cond.methodLink "MashEnzymesLaw" 65 yN_back ∈ wT := wT_mem (List.mem_append_right _ (List.mem_of_getElem? (i := 389) (by decide +kernel))) (by decide +kernel)
theorem tw_i_yN_back : Cond.instanceMethod yN_back ∈ wT := wT_mem (List.mem_append_right _ (List.mem_of_getElem? (i := 390) (by decide +kernel))) (by decide +kernel)
theorem tw_s_yN_back : Cond.selects "MashEnzymesModel" yN_back yN_back ∈ wT := wT_mem (List.mem_append_right _ (List.mem_of_getElem? (i := 391) (by decide +kernel))) (by decide +kernel)
theorem tw_c_yN_back : Cond.code yN_back bN_back 7 (some .boolean) ∈ wT := wT_mem (List.mem_append_right _ (List.mem_of_getElem? (i := 392) rfl)) (by decide +kernel)
theorem tw_m_L_69 : Cond.methodLink "MashEnzymesLaw" 69 yN_water ∈ wT := wT_mem (List.mem_append_right _ (List.mem_of_getElem? (i := 393) (by decide +kernel))) (by decide +kernel)
theorem tw_i_yN_water : Cond.instanceMethod yN_water ∈ wT := wT_mem (List.mem_append_right _ (List.mem_of_getElem? (i := 394) (by decide +kernel))) (by decide +kernel)
theorem tw_s_yN_water : Cond.selects "MashEnzymesModel" yN_water yN_water ∈ wT := wT_mem (List.mem_append_right _ (List.mem_of_getElem? (i := 395) (by decide +kernel))) (by decide +kernel)
theorem tw_c_yN_water : Cond.code yN_water bN_water 1 (some .double) ∈ wT := wT_mem (List.mem_append_right _ (List.mem_of_getElem? (i := 396) rfl)) (by decide +kernel)
theorem tw_m_L_74 : Cond.methodLink "MashEnzymesLaw" 74 yN_converted ∈ wT := wT_mem (List.mem_append_right _ (List.mem_of_getElem? (i := 397) (by decide +kernel))) (by decide +kernel)
theorem tw_i_yN_converted : Cond.instanceMethod yN_converted ∈ wT := wT_mem (List.mem_append_right _ (List.mem_of_getElem? (i := 398) (by decide +kernel))) (by decide +kernel)
theorem tw_s_yN_converted : Cond.selects "MashEnzymesModel" yN_converted yN_converted ∈ wT := wT_mem (List.mem_append_right _ (List.mem_of_getElem? (i := 399) (by decide +kernel))) (by decide +kernel)
theorem tw_c_yN_converted : Cond.code yN_converted bN_converted 1 (some .boolean) ∈ wT := wT_mem (List.mem_append_right _ (List.mem_of_getElem? (i := 400) rfl)) (by decide +kernel)
theorem tw_d_N_114 : Cond.constantDouble "MashEnzymesModel" 114 4638707616191610880 ∈ wT := wT_mem (List.mem_append_right _ (List.mem_of_getElem? (i := 401) (by decide +kernel))) (by decide +kernel)
theorem tw_d_L_13 : Cond.constantDouble "MashEnzymesLaw" 13 4593671619917905920 ∈ wT := wT_mem (List.mem_append_right _ (List.mem_of_getElem? (i := 402) (by decide +kernel))) (by decide +kernel)
theorem tw_s_yQ_reckonValues : Cond.selects "MashEnzymes$Rows" yQ_reckonValues yQ_reckonValues ∈ wT := wT_mem (List.mem_append_left _ (List.mem_of_getElem? (i := 0) (by decide +kernel))) (by decide +kernel)
theorem tw_s_yQ_markNotAbove : Cond.selects "MashEnzymes$Rows" yQ_markNotAbove yQ_markNotAbove ∈ wT := wT_mem (List.mem_append_left _ (List.mem_of_getElem? (i := 1) (by decide +kernel))) (by decide +kernel)
theorem tw_s_yQ_valueFrom : Cond.selects "MashEnzymes$Rows" yQ_valueFrom yQ_valueFrom ∈ wT := wT_mem (List.mem_append_left _ (List.mem_of_getElem? (i := 2) (by decide +kernel))) (by decide +kernel)
theorem tw_s_yQ_between : Cond.selects "MashEnzymes$Rows" yQ_between yQ_between ∈ wT := wT_mem (List.mem_append_left _ (List.mem_of_getElem? (i := 3) (by decide +kernel))) (by decide +kernel)
theorem tw_s_yM_isEmpty : Cond.selects "MashEnzymes" yM_isEmpty yM_isEmpty ∈ wT := wT_mem (List.mem_append_left _ (List.mem_of_getElem? (i := 4) (by decide +kernel))) (by decide +kernel)
theorem tw_s_yM_passSecond : Cond.selects "MashEnzymes" yM_passSecond yM_passSecond ∈ wT := wT_mem (List.mem_append_left _ (List.mem_of_getElem? (i := 5) (by decide +kernel))) (by decide +kernel)
theorem tw_s_yM_reckonActions : Cond.selects "MashEnzymes" yM_reckonActions yM_reckonActions ∈ wT := wT_mem (List.mem_append_left _ (List.mem_of_getElem? (i := 6) (by decide +kernel))) (by decide +kernel)
theorem tw_s_yM_acidityFitness : Cond.selects "MashEnzymes" yM_acidityFitness yM_acidityFitness ∈ wT := wT_mem (List.mem_append_left _ (List.mem_of_getElem? (i := 7) (by decide +kernel))) (by decide +kernel)
theorem tw_s_yM_gelStarch : Cond.selects "MashEnzymes" yM_gelStarch yM_gelStarch ∈ wT := wT_mem (List.mem_append_left _ (List.mem_of_getElem? (i := 8) (by decide +kernel))) (by decide +kernel)
theorem tw_s_yM_splitGelledStarch : Cond.selects "MashEnzymes" yM_splitGelledStarch yM_splitGelledStarch ∈ wT := wT_mem (List.mem_append_left _ (List.mem_of_getElem? (i := 9) (by decide +kernel))) (by decide +kernel)
theorem tw_s_yM_splitDextrinsToMaltose : Cond.selects "MashEnzymes" yM_splitDextrinsToMaltose yM_splitDextrinsToMaltose ∈ wT := wT_mem (List.mem_append_left _ (List.mem_of_getElem? (i := 10) (by decide +kernel))) (by decide +kernel)
theorem tw_s_yM_splitDextrinsToGlucose : Cond.selects "MashEnzymes" yM_splitDextrinsToGlucose yM_splitDextrinsToGlucose ∈ wT := wT_mem (List.mem_append_left _ (List.mem_of_getElem? (i := 11) (by decide +kernel))) (by decide +kernel)
theorem tw_s_yM_splitProtein : Cond.selects "MashEnzymes" yM_splitProtein yM_splitProtein ∈ wT := wT_mem (List.mem_append_left _ (List.mem_of_getElem? (i := 12) (by decide +kernel))) (by decide +kernel)
theorem tw_s_yM_decayEnzymes : Cond.selects "MashEnzymes" yM_decayEnzymes yM_decayEnzymes ∈ wT := wT_mem (List.mem_append_left _ (List.mem_of_getElem? (i := 13) (by decide +kernel))) (by decide +kernel)
theorem tw_s_yN_isEmpty : Cond.selects "MashEnzymesModel" yN_isEmpty yN_isEmpty ∈ wT := wT_mem (List.mem_append_left _ (List.mem_of_getElem? (i := 14) (by decide +kernel))) (by decide +kernel)
theorem tw_s_yN_second : Cond.selects "MashEnzymesModel" yN_second yN_second ∈ wT := wT_mem (List.mem_append_left _ (List.mem_of_getElem? (i := 15) (by decide +kernel))) (by decide +kernel)
theorem tw_s_yN_row : Cond.selects "MashEnzymesModel" yN_row yN_row ∈ wT := wT_mem (List.mem_append_left _ (List.mem_of_getElem? (i := 16) (by decide +kernel))) (by decide +kernel)
end
section
theorem dM_init_0 : decode bM_init 0 = .ok (.aload_n 0, 1) := by decide +kernel
theorem dM_init_1 : decode bM_init 1 = .ok (.invokespecial 3, 3) := by decide +kernel
theorem dM_init_4 : decode bM_init 4 = .ok (.aload_n 0, 1) := by decide +kernel
theorem dM_init_5 : decode bM_init 5 = .ok (.bipush 13, 2) := by decide +kernel
theorem dM_init_7 : decode bM_init 7 = .ok (.newarray .double, 2) := by decide +kernel
theorem dM_init_9 : decode bM_init 9 = .ok (.putfield 9, 3) := by decide +kernel
theorem dM_init_12 : decode bM_init 12 = .ok (.aload_n 0, 1) := by decide +kernel
theorem dM_init_13 : decode bM_init 13 = .ok (.bipush 8, 2) := by decide +kernel
theorem dM_init_15 : decode bM_init 15 = .ok (.bipush 13, 2) := by decide +kernel
theorem dM_init_17 : decode bM_init 17 = .ok (.multianewarray 13 2, 4) := by decide +kernel
theorem dM_init_21 : decode bM_init 21 = .ok (.putfield 15, 3) := by decide +kernel
theorem dM_init_24 : decode bM_init 24 = .ok (.aload_n 0, 1) := by decide +kernel
theorem dM_init_25 : decode bM_init 25 = .ok (.bipush 8, 2) := by decide +kernel
theorem dM_init_27 : decode bM_init 27 = .ok (.newarray .boolean, 2) := by decide +kernel
theorem dM_init_29 : decode bM_init 29 = .ok (.putfield 18, 3) := by decide +kernel
theorem dM_init_32 : decode bM_init 32 = .ok (.aload_n 0, 1) := by decide +kernel
theorem dM_init_33 : decode bM_init 33 = .ok (.iconst 4, 1) := by decide +kernel
theorem dM_init_34 : decode bM_init 34 = .ok (.newarray .double, 2) := by decide +kernel
theorem dM_init_36 : decode bM_init 36 = .ok (.putfield 22, 3) := by decide +kernel
theorem dM_init_39 : decode bM_init 39 = .ok (.aload_n 0, 1) := by decide +kernel
theorem dM_init_40 : decode bM_init 40 = .ok (.new 25, 3) := by decide +kernel
theorem dM_init_43 : decode bM_init 43 = .ok (.dup, 1) := by decide +kernel
theorem dM_init_44 : decode bM_init 44 = .ok (.invokespecial 27, 3) := by decide +kernel
theorem dM_init_47 : decode bM_init 47 = .ok (.putfield 28, 3) := by decide +kernel
theorem dM_init_50 : decode bM_init 50 = .ok (.aload_n 0, 1) := by decide +kernel
theorem dM_init_51 : decode bM_init 51 = .ok (.new 32, 3) := by decide +kernel
theorem dM_init_54 : decode bM_init 54 = .ok (.dup, 1) := by decide +kernel
theorem dM_init_55 : decode bM_init 55 = .ok (.invokespecial 34, 3) := by decide +kernel
theorem dM_init_58 : decode bM_init 58 = .ok (.putfield 35, 3) := by decide +kernel
theorem dM_init_61 : decode bM_init 61 = .ok (.return_, 1) := by decide +kernel
theorem dM_grain_0 : decode bM_grain 0 = .ok (.dload_n 1, 1) := by decide +kernel
theorem dM_grain_1 : decode bM_grain 1 = .ok (.dconst 0, 1) := by decide +kernel
theorem dM_grain_2 : decode bM_grain 2 = .ok (.dcmp .l, 1) := by decide +kernel
theorem dM_grain_3 : decode bM_grain 3 = .ok (.ifCond .le 27, 3) := by decide +kernel
theorem dM_grain_6 : decode bM_grain 6 = .ok (.dload_n 1, 1) := by decide +kernel
theorem dM_grain_7 : decode bM_grain 7 = .ok (.ldc2_w 39, 3) := by decide +kernel
theorem dM_grain_10 : decode bM_grain 10 = .ok (.dcmp .g, 1) := by decide +kernel
theorem dM_grain_11 : decode bM_grain 11 = .ok (.ifCond .gt 19, 3) := by decide +kernel
theorem dM_grain_14 : decode bM_grain 14 = .ok (.dload_n 3, 1) := by decide +kernel
theorem dM_grain_15 : decode bM_grain 15 = .ok (.dconst 0, 1) := by decide +kernel
theorem dM_grain_16 : decode bM_grain 16 = .ok (.dcmp .l, 1) := by decide +kernel
theorem dM_grain_17 : decode bM_grain 17 = .ok (.ifCond .lt 13, 3) := by decide +kernel
theorem dM_grain_20 : decode bM_grain 20 = .ok (.dload_n 3, 1) := by decide +kernel
theorem dM_grain_21 : decode bM_grain 21 = .ok (.dconst 1, 1) := by decide +kernel
theorem dM_grain_22 : decode bM_grain 22 = .ok (.dcmp .g, 1) := by decide +kernel
theorem dM_grain_23 : decode bM_grain 23 = .ok (.ifCond .gt 7, 3) := by decide +kernel
theorem dM_grain_26 : decode bM_grain 26 = .ok (.iconst 1, 1) := by decide +kernel
theorem dM_grain_27 : decode bM_grain 27 = .ok (.goto 4, 3) := by decide +kernel
theorem dM_grain_30 : decode bM_grain 30 = .ok (.iconst 0, 1) := by decide +kernel
theorem dM_grain_31 : decode bM_grain 31 = .ok (.istore 6, 2) := by decide +kernel
theorem dM_grain_33 : decode bM_grain 33 = .ok (.iload 6, 2) := by decide +kernel
theorem dM_grain_35 : decode bM_grain 35 = .ok (.ifCond .eq 14, 3) := by decide +kernel
theorem dM_grain_38 : decode bM_grain 38 = .ok (.iload 5, 2) := by decide +kernel
theorem dM_grain_40 : decode bM_grain 40 = .ok (.ifCond .lt 9, 3) := by decide +kernel
theorem dM_grain_43 : decode bM_grain 43 = .ok (.iload 5, 2) := by decide +kernel
theorem dM_grain_45 : decode bM_grain 45 = .ok (.iconst 3, 1) := by decide +kernel
theorem dM_grain_46 : decode bM_grain 46 = .ok (.if_icmp .lt 5, 3) := by decide +kernel
theorem dM_grain_49 : decode bM_grain 49 = .ok (.iconst 0, 1) := by decide +kernel
theorem dM_grain_50 : decode bM_grain 50 = .ok (.ireturn, 1) := by decide +kernel
theorem dM_grain_51 : decode bM_grain 51 = .ok (.aload_n 0, 1) := by decide +kernel
theorem dM_grain_52 : decode bM_grain 52 = .ok (.getfield 9, 3) := by decide +kernel
theorem dM_grain_55 : decode bM_grain 55 = .ok (.iconst 1, 1) := by decide +kernel
theorem dM_grain_56 : decode bM_grain 56 = .ok (.aload_n 0, 1) := by decide +kernel
theorem dM_grain_57 : decode bM_grain 57 = .ok (.getfield 9, 3) := by decide +kernel
theorem dM_grain_60 : decode bM_grain 60 = .ok (.iconst 1, 1) := by decide +kernel
theorem dM_grain_61 : decode bM_grain 61 = .ok (.daload, 1) := by decide +kernel
theorem dM_grain_62 : decode bM_grain 62 = .ok (.dload_n 1, 1) := by decide +kernel
theorem dM_grain_63 : decode bM_grain 63 = .ok (.dload_n 3, 1) := by decide +kernel
theorem dM_grain_64 : decode bM_grain 64 = .ok (.dmul, 1) := by decide +kernel
theorem dM_grain_65 : decode bM_grain 65 = .ok (.dadd, 1) := by decide +kernel
theorem dM_grain_66 : decode bM_grain 66 = .ok (.dastore, 1) := by decide +kernel
theorem dM_grain_67 : decode bM_grain 67 = .ok (.aload_n 0, 1) := by decide +kernel
theorem dM_grain_68 : decode bM_grain 68 = .ok (.aload_n 0, 1) := by decide +kernel
theorem dM_grain_69 : decode bM_grain 69 = .ok (.getfield 41, 3) := by decide +kernel
theorem dM_grain_72 : decode bM_grain 72 = .ok (.dload_n 1, 1) := by decide +kernel
theorem dM_grain_73 : decode bM_grain 73 = .ok (.dload_n 3, 1) := by decide +kernel
theorem dM_grain_74 : decode bM_grain 74 = .ok (.dmul, 1) := by decide +kernel
theorem dM_grain_75 : decode bM_grain 75 = .ok (.dadd, 1) := by decide +kernel
theorem dM_grain_76 : decode bM_grain 76 = .ok (.putfield 41, 3) := by decide +kernel
theorem dM_grain_79 : decode bM_grain 79 = .ok (.aload_n 0, 1) := by decide +kernel
theorem dM_grain_80 : decode bM_grain 80 = .ok (.getfield 9, 3) := by decide +kernel
theorem dM_grain_83 : decode bM_grain 83 = .ok (.bipush 8, 2) := by decide +kernel
theorem dM_grain_85 : decode bM_grain 85 = .ok (.aload_n 0, 1) := by decide +kernel
theorem dM_grain_86 : decode bM_grain 86 = .ok (.getfield 9, 3) := by decide +kernel
theorem dM_grain_89 : decode bM_grain 89 = .ok (.bipush 8, 2) := by decide +kernel
theorem dM_grain_91 : decode bM_grain 91 = .ok (.daload, 1) := by decide +kernel
theorem dM_grain_92 : decode bM_grain 92 = .ok (.dload_n 1, 1) := by decide +kernel
theorem dM_grain_93 : decode bM_grain 93 = .ok (.getstatic 45, 3) := by decide +kernel
theorem dM_grain_96 : decode bM_grain 96 = .ok (.iload 5, 2) := by decide +kernel
theorem dM_grain_98 : decode bM_grain 98 = .ok (.iaload, 1) := by decide +kernel
theorem dM_grain_99 : decode bM_grain 99 = .ok (.i2d, 1) := by decide +kernel
theorem dM_grain_100 : decode bM_grain 100 = .ok (.ldc2_w 49, 3) := by decide +kernel
theorem dM_grain_103 : decode bM_grain 103 = .ok (.ddiv, 1) := by decide +kernel
theorem dM_grain_104 : decode bM_grain 104 = .ok (.dmul, 1) := by decide +kernel
theorem dM_grain_105 : decode bM_grain 105 = .ok (.dadd, 1) := by decide +kernel
theorem dM_grain_106 : decode bM_grain 106 = .ok (.dastore, 1) := by decide +kernel
theorem dM_grain_107 : decode bM_grain 107 = .ok (.iconst 0, 1) := by decide +kernel
theorem dM_grain_108 : decode bM_grain 108 = .ok (.istore 7, 2) := by decide +kernel
theorem dM_grain_110 : decode bM_grain 110 = .ok (.iload 7, 2) := by decide +kernel
theorem dM_grain_112 : decode bM_grain 112 = .ok (.iconst 4, 1) := by decide +kernel
theorem dM_grain_113 : decode bM_grain 113 = .ok (.if_icmp .ge 52, 3) := by decide +kernel
theorem dM_grain_116 : decode bM_grain 116 = .ok (.getstatic 51, 3) := by decide +kernel
theorem dM_grain_119 : decode bM_grain 119 = .ok (.iload 5, 2) := by decide +kernel
theorem dM_grain_121 : decode bM_grain 121 = .ok (.iconst 4, 1) := by decide +kernel
theorem dM_grain_122 : decode bM_grain 122 = .ok (.imul, 1) := by decide +kernel
theorem dM_grain_123 : decode bM_grain 123 = .ok (.iload 7, 2) := by decide +kernel
theorem dM_grain_125 : decode bM_grain 125 = .ok (.iadd, 1) := by decide +kernel
theorem dM_grain_126 : decode bM_grain 126 = .ok (.iaload, 1) := by decide +kernel
theorem dM_grain_127 : decode bM_grain 127 = .ok (.i2d, 1) := by decide +kernel
theorem dM_grain_128 : decode bM_grain 128 = .ok (.ldc2_w 54, 3) := by decide +kernel
theorem dM_grain_131 : decode bM_grain 131 = .ok (.ddiv, 1) := by decide +kernel
theorem dM_grain_132 : decode bM_grain 132 = .ok (.dstore 8, 2) := by decide +kernel
theorem dM_grain_134 : decode bM_grain 134 = .ok (.aload_n 0, 1) := by decide +kernel
theorem dM_grain_135 : decode bM_grain 135 = .ok (.getfield 9, 3) := by decide +kernel
theorem dM_grain_138 : decode bM_grain 138 = .ok (.bipush 9, 2) := by decide +kernel
theorem dM_grain_140 : decode bM_grain 140 = .ok (.iload 7, 2) := by decide +kernel
theorem dM_grain_142 : decode bM_grain 142 = .ok (.iadd, 1) := by decide +kernel
theorem dM_grain_143 : decode bM_grain 143 = .ok (.aload_n 0, 1) := by decide +kernel
theorem dM_grain_144 : decode bM_grain 144 = .ok (.getfield 9, 3) := by decide +kernel
theorem dM_grain_147 : decode bM_grain 147 = .ok (.bipush 9, 2) := by decide +kernel
theorem dM_grain_149 : decode bM_grain 149 = .ok (.iload 7, 2) := by decide +kernel
theorem dM_grain_151 : decode bM_grain 151 = .ok (.iadd, 1) := by decide +kernel
theorem dM_grain_152 : decode bM_grain 152 = .ok (.daload, 1) := by decide +kernel
theorem dM_grain_153 : decode bM_grain 153 = .ok (.dload_n 1, 1) := by decide +kernel
theorem dM_grain_154 : decode bM_grain 154 = .ok (.dload 8, 2) := by decide +kernel
theorem dM_grain_156 : decode bM_grain 156 = .ok (.dmul, 1) := by decide +kernel
theorem dM_grain_157 : decode bM_grain 157 = .ok (.dadd, 1) := by decide +kernel
theorem dM_grain_158 : decode bM_grain 158 = .ok (.dastore, 1) := by decide +kernel
theorem dM_grain_159 : decode bM_grain 159 = .ok (.iinc 7 1, 3) := by decide +kernel
theorem dM_grain_162 : decode bM_grain 162 = .ok (.goto (-52), 3) := by decide +kernel
theorem dM_grain_165 : decode bM_grain 165 = .ok (.aload_n 0, 1) := by decide +kernel
theorem dM_grain_166 : decode bM_grain 166 = .ok (.iconst 1, 1) := by decide +kernel
theorem dM_grain_167 : decode bM_grain 167 = .ok (.putfield 56, 3) := by decide +kernel
theorem dM_grain_170 : decode bM_grain 170 = .ok (.iconst 1, 1) := by decide +kernel
theorem dM_grain_171 : decode bM_grain 171 = .ok (.ireturn, 1) := by decide +kernel
theorem dM_liquor_0 : decode bM_liquor 0 = .ok (.dload_n 1, 1) := by decide +kernel
theorem dM_liquor_1 : decode bM_liquor 1 = .ok (.dconst 0, 1) := by decide +kernel
theorem dM_liquor_2 : decode bM_liquor 2 = .ok (.dcmp .l, 1) := by decide +kernel
theorem dM_liquor_3 : decode bM_liquor 3 = .ok (.ifCond .le 40, 3) := by decide +kernel
theorem dM_liquor_6 : decode bM_liquor 6 = .ok (.dload_n 1, 1) := by decide +kernel
theorem dM_liquor_7 : decode bM_liquor 7 = .ok (.ldc2_w 60, 3) := by decide +kernel
theorem dM_liquor_10 : decode bM_liquor 10 = .ok (.dcmp .g, 1) := by decide +kernel
theorem dM_liquor_11 : decode bM_liquor 11 = .ok (.ifCond .gt 32, 3) := by decide +kernel
theorem dM_liquor_14 : decode bM_liquor 14 = .ok (.dload_n 3, 1) := by decide +kernel
theorem dM_liquor_15 : decode bM_liquor 15 = .ok (.invokestatic 62, 3) := by decide +kernel
theorem dM_liquor_18 : decode bM_liquor 18 = .ok (.ifCond .eq 25, 3) := by decide +kernel
theorem dM_liquor_21 : decode bM_liquor 21 = .ok (.dload 5, 2) := by decide +kernel
theorem dM_liquor_23 : decode bM_liquor 23 = .ok (.ldc2_w 66, 3) := by decide +kernel
theorem dM_liquor_26 : decode bM_liquor 26 = .ok (.dcmp .l, 1) := by decide +kernel
theorem dM_liquor_27 : decode bM_liquor 27 = .ok (.ifCond .lt 16, 3) := by decide +kernel
theorem dM_liquor_30 : decode bM_liquor 30 = .ok (.dload 5, 2) := by decide +kernel
theorem dM_liquor_32 : decode bM_liquor 32 = .ok (.ldc2_w 54, 3) := by decide +kernel
theorem dM_liquor_35 : decode bM_liquor 35 = .ok (.dcmp .g, 1) := by decide +kernel
theorem dM_liquor_36 : decode bM_liquor 36 = .ok (.ifCond .gt 7, 3) := by decide +kernel
theorem dM_liquor_39 : decode bM_liquor 39 = .ok (.iconst 1, 1) := by decide +kernel
theorem dM_liquor_40 : decode bM_liquor 40 = .ok (.goto 4, 3) := by decide +kernel
theorem dM_liquor_43 : decode bM_liquor 43 = .ok (.iconst 0, 1) := by decide +kernel
theorem dM_liquor_44 : decode bM_liquor 44 = .ok (.istore 7, 2) := by decide +kernel
theorem dM_liquor_46 : decode bM_liquor 46 = .ok (.iload 7, 2) := by decide +kernel
theorem dM_liquor_48 : decode bM_liquor 48 = .ok (.ifCond .ne 5, 3) := by decide +kernel
theorem dM_liquor_51 : decode bM_liquor 51 = .ok (.iconst 0, 1) := by decide +kernel
theorem dM_liquor_52 : decode bM_liquor 52 = .ok (.ireturn, 1) := by decide +kernel
theorem dM_liquor_53 : decode bM_liquor 53 = .ok (.aload_n 0, 1) := by decide +kernel
theorem dM_liquor_54 : decode bM_liquor 54 = .ok (.getfield 9, 3) := by decide +kernel
theorem dM_liquor_57 : decode bM_liquor 57 = .ok (.iconst 0, 1) := by decide +kernel
theorem dM_liquor_58 : decode bM_liquor 58 = .ok (.daload, 1) := by decide +kernel
theorem dM_liquor_59 : decode bM_liquor 59 = .ok (.dstore 8, 2) := by decide +kernel
theorem dM_liquor_61 : decode bM_liquor 61 = .ok (.aload_n 0, 1) := by decide +kernel
theorem dM_liquor_62 : decode bM_liquor 62 = .ok (.aload_n 0, 1) := by decide +kernel
theorem dM_liquor_63 : decode bM_liquor 63 = .ok (.getfield 68, 3) := by decide +kernel
theorem dM_liquor_66 : decode bM_liquor 66 = .ok (.dload 8, 2) := by decide +kernel
theorem dM_liquor_68 : decode bM_liquor 68 = .ok (.dload_n 3, 1) := by decide +kernel
theorem dM_liquor_69 : decode bM_liquor 69 = .ok (.dload_n 1, 1) := by decide +kernel
theorem dM_liquor_70 : decode bM_liquor 70 = .ok (.invokestatic 71, 3) := by decide +kernel
theorem dM_liquor_73 : decode bM_liquor 73 = .ok (.putfield 68, 3) := by decide +kernel
theorem dM_liquor_76 : decode bM_liquor 76 = .ok (.aload_n 0, 1) := by decide +kernel
theorem dM_liquor_77 : decode bM_liquor 77 = .ok (.aload_n 0, 1) := by decide +kernel
theorem dM_liquor_78 : decode bM_liquor 78 = .ok (.getfield 75, 3) := by decide +kernel
theorem dM_liquor_81 : decode bM_liquor 81 = .ok (.dload 8, 2) := by decide +kernel
theorem dM_liquor_83 : decode bM_liquor 83 = .ok (.dload 5, 2) := by decide +kernel
theorem dM_liquor_85 : decode bM_liquor 85 = .ok (.dload_n 1, 1) := by decide +kernel
theorem dM_liquor_86 : decode bM_liquor 86 = .ok (.invokestatic 71, 3) := by decide +kernel
theorem dM_liquor_89 : decode bM_liquor 89 = .ok (.putfield 75, 3) := by decide +kernel
theorem dM_liquor_92 : decode bM_liquor 92 = .ok (.aload_n 0, 1) := by decide +kernel
theorem dM_liquor_93 : decode bM_liquor 93 = .ok (.getfield 9, 3) := by decide +kernel
theorem dM_liquor_96 : decode bM_liquor 96 = .ok (.iconst 0, 1) := by decide +kernel
theorem dM_liquor_97 : decode bM_liquor 97 = .ok (.dload 8, 2) := by decide +kernel
theorem dM_liquor_99 : decode bM_liquor 99 = .ok (.dload_n 1, 1) := by decide +kernel
theorem dM_liquor_100 : decode bM_liquor 100 = .ok (.dadd, 1) := by decide +kernel
theorem dM_liquor_101 : decode bM_liquor 101 = .ok (.dastore, 1) := by decide +kernel
theorem dM_liquor_102 : decode bM_liquor 102 = .ok (.aload_n 0, 1) := by decide +kernel
theorem dM_liquor_103 : decode bM_liquor 103 = .ok (.iconst 1, 1) := by decide +kernel
theorem dM_liquor_104 : decode bM_liquor 104 = .ok (.putfield 78, 3) := by decide +kernel
theorem dM_liquor_107 : decode bM_liquor 107 = .ok (.iconst 1, 1) := by decide +kernel
theorem dM_liquor_108 : decode bM_liquor 108 = .ok (.ireturn, 1) := by decide +kernel
theorem dM_enzyme_0 : decode bM_enzyme 0 = .ok (.dload_n 2, 1) := by decide +kernel
theorem dM_enzyme_1 : decode bM_enzyme 1 = .ok (.dconst 0, 1) := by decide +kernel
theorem dM_enzyme_2 : decode bM_enzyme 2 = .ok (.dcmp .l, 1) := by decide +kernel
theorem dM_enzyme_3 : decode bM_enzyme 3 = .ok (.ifCond .le 15, 3) := by decide +kernel
theorem dM_enzyme_6 : decode bM_enzyme 6 = .ok (.dload_n 2, 1) := by decide +kernel
theorem dM_enzyme_7 : decode bM_enzyme 7 = .ok (.ldc2_w 39, 3) := by decide +kernel
theorem dM_enzyme_10 : decode bM_enzyme 10 = .ok (.dcmp .g, 1) := by decide +kernel
theorem dM_enzyme_11 : decode bM_enzyme 11 = .ok (.ifCond .gt 7, 3) := by decide +kernel
theorem dM_enzyme_14 : decode bM_enzyme 14 = .ok (.iconst 1, 1) := by decide +kernel
theorem dM_enzyme_15 : decode bM_enzyme 15 = .ok (.goto 4, 3) := by decide +kernel
theorem dM_enzyme_18 : decode bM_enzyme 18 = .ok (.iconst 0, 1) := by decide +kernel
theorem dM_enzyme_19 : decode bM_enzyme 19 = .ok (.istore 4, 2) := by decide +kernel
theorem dM_enzyme_21 : decode bM_enzyme 21 = .ok (.iload 4, 2) := by decide +kernel
theorem dM_enzyme_23 : decode bM_enzyme 23 = .ok (.ifCond .eq 12, 3) := by decide +kernel
theorem dM_enzyme_26 : decode bM_enzyme 26 = .ok (.iload_n 1, 1) := by decide +kernel
theorem dM_enzyme_27 : decode bM_enzyme 27 = .ok (.ifCond .lt 8, 3) := by decide +kernel
theorem dM_enzyme_30 : decode bM_enzyme 30 = .ok (.iload_n 1, 1) := by decide +kernel
theorem dM_enzyme_31 : decode bM_enzyme 31 = .ok (.iconst 4, 1) := by decide +kernel
theorem dM_enzyme_32 : decode bM_enzyme 32 = .ok (.if_icmp .lt 5, 3) := by decide +kernel
theorem dM_enzyme_35 : decode bM_enzyme 35 = .ok (.iconst 0, 1) := by decide +kernel
theorem dM_enzyme_36 : decode bM_enzyme 36 = .ok (.ireturn, 1) := by decide +kernel
theorem dM_enzyme_37 : decode bM_enzyme 37 = .ok (.aload_n 0, 1) := by decide +kernel
theorem dM_enzyme_38 : decode bM_enzyme 38 = .ok (.getfield 9, 3) := by decide +kernel
theorem dM_enzyme_41 : decode bM_enzyme 41 = .ok (.bipush 9, 2) := by decide +kernel
theorem dM_enzyme_43 : decode bM_enzyme 43 = .ok (.iload_n 1, 1) := by decide +kernel
theorem dM_enzyme_44 : decode bM_enzyme 44 = .ok (.iadd, 1) := by decide +kernel
theorem dM_enzyme_45 : decode bM_enzyme 45 = .ok (.aload_n 0, 1) := by decide +kernel
theorem dM_enzyme_46 : decode bM_enzyme 46 = .ok (.getfield 9, 3) := by decide +kernel
theorem dM_enzyme_49 : decode bM_enzyme 49 = .ok (.bipush 9, 2) := by decide +kernel
theorem dM_enzyme_51 : decode bM_enzyme 51 = .ok (.iload_n 1, 1) := by decide +kernel
theorem dM_enzyme_52 : decode bM_enzyme 52 = .ok (.iadd, 1) := by decide +kernel
theorem dM_enzyme_53 : decode bM_enzyme 53 = .ok (.daload, 1) := by decide +kernel
theorem dM_enzyme_54 : decode bM_enzyme 54 = .ok (.dload_n 2, 1) := by decide +kernel
theorem dM_enzyme_55 : decode bM_enzyme 55 = .ok (.dadd, 1) := by decide +kernel
theorem dM_enzyme_56 : decode bM_enzyme 56 = .ok (.dastore, 1) := by decide +kernel
theorem dM_enzyme_57 : decode bM_enzyme 57 = .ok (.iconst 1, 1) := by decide +kernel
theorem dM_enzyme_58 : decode bM_enzyme 58 = .ok (.ireturn, 1) := by decide +kernel
theorem dM_step_0 : decode bM_step 0 = .ok (.iload_n 1, 1) := by decide +kernel
theorem dM_step_1 : decode bM_step 1 = .ok (.aload_n 0, 1) := by decide +kernel
theorem dM_step_2 : decode bM_step 2 = .ok (.getfield 81, 3) := by decide +kernel
theorem dM_step_5 : decode bM_step 5 = .ok (.if_icmp .le 16, 3) := by decide +kernel
theorem dM_step_8 : decode bM_step 8 = .ok (.iload_n 1, 1) := by decide +kernel
theorem dM_step_9 : decode bM_step 9 = .ok (.ldc 85, 2) := by decide +kernel
theorem dM_step_11 : decode bM_step 11 = .ok (.if_icmp .gt 10, 3) := by decide +kernel
theorem dM_step_14 : decode bM_step 14 = .ok (.dload_n 2, 1) := by decide +kernel
theorem dM_step_15 : decode bM_step 15 = .ok (.invokestatic 62, 3) := by decide +kernel
theorem dM_step_18 : decode bM_step 18 = .ok (.ifCond .ne 5, 3) := by decide +kernel
theorem dM_step_21 : decode bM_step 21 = .ok (.iconst 0, 1) := by decide +kernel
theorem dM_step_22 : decode bM_step 22 = .ok (.ireturn, 1) := by decide +kernel
theorem dM_step_23 : decode bM_step 23 = .ok (.aload_n 0, 1) := by decide +kernel
theorem dM_step_24 : decode bM_step 24 = .ok (.getfield 28, 3) := by decide +kernel
theorem dM_step_27 : decode bM_step 27 = .ok (.iload_n 1, 1) := by decide +kernel
theorem dM_step_28 : decode bM_step 28 = .ok (.dload_n 2, 1) := by decide +kernel
theorem dM_step_29 : decode bM_step 29 = .ok (.invokevirtual 86, 3) := by decide +kernel
theorem dM_step_32 : decode bM_step 32 = .ok (.ireturn, 1) := by decide +kernel
theorem dM_run_0 : decode bM_run 0 = .ok (.aload_n 0, 1) := by decide +kernel
theorem dM_run_1 : decode bM_run 1 = .ok (.invokevirtual 90, 3) := by decide +kernel
theorem dM_run_4 : decode bM_run 4 = .ok (.ifCond .ne 24, 3) := by decide +kernel
theorem dM_run_7 : decode bM_run 7 = .ok (.iload_n 1, 1) := by decide +kernel
theorem dM_run_8 : decode bM_run 8 = .ok (.ifCond .lt 20, 3) := by decide +kernel
theorem dM_run_11 : decode bM_run 11 = .ok (.iload_n 1, 1) := by decide +kernel
theorem dM_run_12 : decode bM_run 12 = .ok (.ldc 94, 2) := by decide +kernel
theorem dM_run_14 : decode bM_run 14 = .ok (.if_icmp .gt 14, 3) := by decide +kernel
theorem dM_run_17 : decode bM_run 17 = .ok (.iload_n 1, 1) := by decide +kernel
theorem dM_run_18 : decode bM_run 18 = .ok (.ldc 85, 2) := by decide +kernel
theorem dM_run_20 : decode bM_run 20 = .ok (.aload_n 0, 1) := by decide +kernel
theorem dM_run_21 : decode bM_run 21 = .ok (.getfield 81, 3) := by decide +kernel
theorem dM_run_24 : decode bM_run 24 = .ok (.isub, 1) := by decide +kernel
theorem dM_run_25 : decode bM_run 25 = .ok (.if_icmp .le 5, 3) := by decide +kernel
theorem dM_run_28 : decode bM_run 28 = .ok (.iconst (-1), 1) := by decide +kernel
theorem dM_run_29 : decode bM_run 29 = .ok (.ireturn, 1) := by decide +kernel
theorem dM_run_30 : decode bM_run 30 = .ok (.iconst 0, 1) := by decide +kernel
theorem dM_run_31 : decode bM_run 31 = .ok (.istore_n 2, 1) := by decide +kernel
theorem dM_run_32 : decode bM_run 32 = .ok (.iload_n 2, 1) := by decide +kernel
theorem dM_run_33 : decode bM_run 33 = .ok (.iload_n 1, 1) := by decide +kernel
theorem dM_run_34 : decode bM_run 34 = .ok (.if_icmp .ge 13, 3) := by decide +kernel
theorem dM_run_37 : decode bM_run 37 = .ok (.aload_n 0, 1) := by decide +kernel
theorem dM_run_38 : decode bM_run 38 = .ok (.invokevirtual 95, 3) := by decide +kernel
theorem dM_run_41 : decode bM_run 41 = .ok (.iinc 2 1, 3) := by decide +kernel
theorem dM_run_44 : decode bM_run 44 = .ok (.goto (-12), 3) := by decide +kernel
theorem dM_run_47 : decode bM_run 47 = .ok (.aload_n 0, 1) := by decide +kernel
theorem dM_run_48 : decode bM_run 48 = .ok (.getfield 81, 3) := by decide +kernel
theorem dM_run_51 : decode bM_run 51 = .ok (.ireturn, 1) := by decide +kernel
theorem dM_sugar_0 : decode bM_sugar 0 = .ok (.iload_n 1, 1) := by decide +kernel
theorem dM_sugar_1 : decode bM_sugar 1 = .ok (.ifCond .lt 19, 3) := by decide +kernel
theorem dM_sugar_4 : decode bM_sugar 4 = .ok (.iload_n 1, 1) := by decide +kernel
theorem dM_sugar_5 : decode bM_sugar 5 = .ok (.iconst 5, 1) := by decide +kernel
theorem dM_sugar_6 : decode bM_sugar 6 = .ok (.if_icmp .ge 14, 3) := by decide +kernel
theorem dM_sugar_9 : decode bM_sugar 9 = .ok (.aload_n 0, 1) := by decide +kernel
theorem dM_sugar_10 : decode bM_sugar 10 = .ok (.getfield 9, 3) := by decide +kernel
theorem dM_sugar_13 : decode bM_sugar 13 = .ok (.iconst 3, 1) := by decide +kernel
theorem dM_sugar_14 : decode bM_sugar 14 = .ok (.iload_n 1, 1) := by decide +kernel
theorem dM_sugar_15 : decode bM_sugar 15 = .ok (.iadd, 1) := by decide +kernel
theorem dM_sugar_16 : decode bM_sugar 16 = .ok (.daload, 1) := by decide +kernel
theorem dM_sugar_17 : decode bM_sugar 17 = .ok (.goto 6, 3) := by decide +kernel
theorem dM_sugar_20 : decode bM_sugar 20 = .ok (.ldc2_w 98, 3) := by decide +kernel
theorem dM_sugar_23 : decode bM_sugar 23 = .ok (.dreturn, 1) := by decide +kernel
theorem dM_starch_0 : decode bM_starch 0 = .ok (.aload_n 0, 1) := by decide +kernel
theorem dM_starch_1 : decode bM_starch 1 = .ok (.getfield 9, 3) := by decide +kernel
theorem dM_starch_4 : decode bM_starch 4 = .ok (.iconst 1, 1) := by decide +kernel
theorem dM_starch_5 : decode bM_starch 5 = .ok (.daload, 1) := by decide +kernel
theorem dM_starch_6 : decode bM_starch 6 = .ok (.aload_n 0, 1) := by decide +kernel
theorem dM_starch_7 : decode bM_starch 7 = .ok (.getfield 9, 3) := by decide +kernel
theorem dM_starch_10 : decode bM_starch 10 = .ok (.iconst 2, 1) := by decide +kernel
theorem dM_starch_11 : decode bM_starch 11 = .ok (.daload, 1) := by decide +kernel
theorem dM_starch_12 : decode bM_starch 12 = .ok (.dadd, 1) := by decide +kernel
theorem dM_starch_13 : decode bM_starch 13 = .ok (.dreturn, 1) := by decide +kernel
theorem dM_enzymeLeft_0 : decode bM_enzymeLeft 0 = .ok (.iload_n 1, 1) := by decide +kernel
theorem dM_enzymeLeft_1 : decode bM_enzymeLeft 1 = .ok (.ifCond .lt 20, 3) := by decide +kernel
theorem dM_enzymeLeft_4 : decode bM_enzymeLeft 4 = .ok (.iload_n 1, 1) := by decide +kernel
theorem dM_enzymeLeft_5 : decode bM_enzymeLeft 5 = .ok (.iconst 4, 1) := by decide +kernel
theorem dM_enzymeLeft_6 : decode bM_enzymeLeft 6 = .ok (.if_icmp .ge 15, 3) := by decide +kernel
theorem dM_enzymeLeft_9 : decode bM_enzymeLeft 9 = .ok (.aload_n 0, 1) := by decide +kernel
theorem dM_enzymeLeft_10 : decode bM_enzymeLeft 10 = .ok (.getfield 9, 3) := by decide +kernel
theorem dM_enzymeLeft_13 : decode bM_enzymeLeft 13 = .ok (.bipush 9, 2) := by decide +kernel
theorem dM_enzymeLeft_15 : decode bM_enzymeLeft 15 = .ok (.iload_n 1, 1) := by decide +kernel
theorem dM_enzymeLeft_16 : decode bM_enzymeLeft 16 = .ok (.iadd, 1) := by decide +kernel
theorem dM_enzymeLeft_17 : decode bM_enzymeLeft 17 = .ok (.daload, 1) := by decide +kernel
theorem dM_enzymeLeft_18 : decode bM_enzymeLeft 18 = .ok (.goto 6, 3) := by decide +kernel
theorem dM_enzymeLeft_21 : decode bM_enzymeLeft 21 = .ok (.ldc2_w 98, 3) := by decide +kernel
theorem dM_enzymeLeft_24 : decode bM_enzymeLeft 24 = .ok (.dreturn, 1) := by decide +kernel
theorem dM_degrees_0 : decode bM_degrees 0 = .ok (.aload_n 0, 1) := by decide +kernel
theorem dM_degrees_1 : decode bM_degrees 1 = .ok (.getfield 68, 3) := by decide +kernel
theorem dM_degrees_4 : decode bM_degrees 4 = .ok (.dreturn, 1) := by decide +kernel
theorem dM_take_0 : decode bM_take 0 = .ok (.dload_n 1, 1) := by decide +kernel
theorem dM_take_1 : decode bM_take 1 = .ok (.dconst 0, 1) := by decide +kernel
theorem dM_take_2 : decode bM_take 2 = .ok (.dcmp .l, 1) := by decide +kernel
theorem dM_take_3 : decode bM_take 3 = .ok (.ifCond .le 13, 3) := by decide +kernel
theorem dM_take_6 : decode bM_take 6 = .ok (.dload_n 1, 1) := by decide +kernel
theorem dM_take_7 : decode bM_take 7 = .ok (.dconst 1, 1) := by decide +kernel
theorem dM_take_8 : decode bM_take 8 = .ok (.dcmp .g, 1) := by decide +kernel
theorem dM_take_9 : decode bM_take 9 = .ok (.ifCond .ge 7, 3) := by decide +kernel
theorem dM_take_12 : decode bM_take 12 = .ok (.iconst 1, 1) := by decide +kernel
theorem dM_take_13 : decode bM_take 13 = .ok (.goto 4, 3) := by decide +kernel
theorem dM_take_16 : decode bM_take 16 = .ok (.iconst 0, 1) := by decide +kernel
theorem dM_take_17 : decode bM_take 17 = .ok (.istore_n 3, 1) := by decide +kernel
theorem dM_take_18 : decode bM_take 18 = .ok (.iload_n 3, 1) := by decide +kernel
theorem dM_take_19 : decode bM_take 19 = .ok (.ifCond .eq 10, 3) := by decide +kernel
theorem dM_take_22 : decode bM_take 22 = .ok (.aload_n 0, 1) := by decide +kernel
theorem dM_take_23 : decode bM_take 23 = .ok (.invokevirtual 90, 3) := by decide +kernel
theorem dM_take_26 : decode bM_take 26 = .ok (.ifCond .eq 5, 3) := by decide +kernel
theorem dM_take_29 : decode bM_take 29 = .ok (.iconst (-1), 1) := by decide +kernel
theorem dM_take_30 : decode bM_take 30 = .ok (.ireturn, 1) := by decide +kernel
theorem dM_take_31 : decode bM_take 31 = .ok (.aload_n 0, 1) := by decide +kernel
theorem dM_take_32 : decode bM_take 32 = .ok (.getfield 100, 3) := by decide +kernel
theorem dM_take_35 : decode bM_take 35 = .ok (.bipush 8, 2) := by decide +kernel
theorem dM_take_37 : decode bM_take 37 = .ok (.if_icmp .lt 6, 3) := by decide +kernel
theorem dM_take_40 : decode bM_take 40 = .ok (.bipush (-2), 2) := by decide +kernel
theorem dM_take_42 : decode bM_take 42 = .ok (.ireturn, 1) := by decide +kernel
theorem dM_take_43 : decode bM_take 43 = .ok (.aload_n 0, 1) := by decide +kernel
theorem dM_take_44 : decode bM_take 44 = .ok (.getfield 15, 3) := by decide +kernel
theorem dM_take_47 : decode bM_take 47 = .ok (.aload_n 0, 1) := by decide +kernel
theorem dM_take_48 : decode bM_take 48 = .ok (.getfield 100, 3) := by decide +kernel
theorem dM_take_51 : decode bM_take 51 = .ok (.aaload, 1) := by decide +kernel
theorem dM_take_52 : decode bM_take 52 = .ok (.astore 4, 2) := by decide +kernel
theorem dM_take_54 : decode bM_take 54 = .ok (.iconst 0, 1) := by decide +kernel
theorem dM_take_55 : decode bM_take 55 = .ok (.istore 5, 2) := by decide +kernel
theorem dM_take_57 : decode bM_take 57 = .ok (.iload 5, 2) := by decide +kernel
theorem dM_take_59 : decode bM_take 59 = .ok (.bipush 13, 2) := by decide +kernel
theorem dM_take_61 : decode bM_take 61 = .ok (.if_icmp .ge 43, 3) := by decide +kernel
theorem dM_take_64 : decode bM_take 64 = .ok (.aload 4, 2) := by decide +kernel
theorem dM_take_66 : decode bM_take 66 = .ok (.iload 5, 2) := by decide +kernel
theorem dM_take_68 : decode bM_take 68 = .ok (.aload_n 0, 1) := by decide +kernel
theorem dM_take_69 : decode bM_take 69 = .ok (.getfield 9, 3) := by decide +kernel
theorem dM_take_72 : decode bM_take 72 = .ok (.iload 5, 2) := by decide +kernel
theorem dM_take_74 : decode bM_take 74 = .ok (.daload, 1) := by decide +kernel
theorem dM_take_75 : decode bM_take 75 = .ok (.dload_n 1, 1) := by decide +kernel
theorem dM_take_76 : decode bM_take 76 = .ok (.dmul, 1) := by decide +kernel
theorem dM_take_77 : decode bM_take 77 = .ok (.dastore, 1) := by decide +kernel
theorem dM_take_78 : decode bM_take 78 = .ok (.aload_n 0, 1) := by decide +kernel
theorem dM_take_79 : decode bM_take 79 = .ok (.getfield 9, 3) := by decide +kernel
theorem dM_take_82 : decode bM_take 82 = .ok (.iload 5, 2) := by decide +kernel
theorem dM_take_84 : decode bM_take 84 = .ok (.aload_n 0, 1) := by decide +kernel
theorem dM_take_85 : decode bM_take 85 = .ok (.getfield 9, 3) := by decide +kernel
theorem dM_take_88 : decode bM_take 88 = .ok (.iload 5, 2) := by decide +kernel
theorem dM_take_90 : decode bM_take 90 = .ok (.daload, 1) := by decide +kernel
theorem dM_take_91 : decode bM_take 91 = .ok (.aload 4, 2) := by decide +kernel
theorem dM_take_93 : decode bM_take 93 = .ok (.iload 5, 2) := by decide +kernel
theorem dM_take_95 : decode bM_take 95 = .ok (.daload, 1) := by decide +kernel
theorem dM_take_96 : decode bM_take 96 = .ok (.dsub, 1) := by decide +kernel
theorem dM_take_97 : decode bM_take 97 = .ok (.dastore, 1) := by decide +kernel
theorem dM_take_98 : decode bM_take 98 = .ok (.iinc 5 1, 3) := by decide +kernel
theorem dM_take_101 : decode bM_take 101 = .ok (.goto (-44), 3) := by decide +kernel
theorem dM_take_104 : decode bM_take 104 = .ok (.aload_n 0, 1) := by decide +kernel
theorem dM_take_105 : decode bM_take 105 = .ok (.aload_n 0, 1) := by decide +kernel
theorem dM_take_106 : decode bM_take 106 = .ok (.getfield 100, 3) := by decide +kernel
theorem dM_take_109 : decode bM_take 109 = .ok (.iconst 1, 1) := by decide +kernel
theorem dM_take_110 : decode bM_take 110 = .ok (.iadd, 1) := by decide +kernel
theorem dM_take_111 : decode bM_take 111 = .ok (.putfield 100, 3) := by decide +kernel
theorem dM_take_114 : decode bM_take 114 = .ok (.aload_n 0, 1) := by decide +kernel
theorem dM_take_115 : decode bM_take 115 = .ok (.getfield 100, 3) := by decide +kernel
theorem dM_take_118 : decode bM_take 118 = .ok (.iconst 1, 1) := by decide +kernel
theorem dM_take_119 : decode bM_take 119 = .ok (.isub, 1) := by decide +kernel
theorem dM_take_120 : decode bM_take 120 = .ok (.ireturn, 1) := by decide +kernel
theorem dM_back_0 : decode bM_back 0 = .ok (.iload_n 1, 1) := by decide +kernel
theorem dM_back_1 : decode bM_back 1 = .ok (.ifCond .lt 27, 3) := by decide +kernel
theorem dM_back_4 : decode bM_back 4 = .ok (.iload_n 1, 1) := by decide +kernel
theorem dM_back_5 : decode bM_back 5 = .ok (.aload_n 0, 1) := by decide +kernel
theorem dM_back_6 : decode bM_back 6 = .ok (.getfield 100, 3) := by decide +kernel
theorem dM_back_9 : decode bM_back 9 = .ok (.if_icmp .ge 19, 3) := by decide +kernel
theorem dM_back_12 : decode bM_back 12 = .ok (.aload_n 0, 1) := by decide +kernel
theorem dM_back_13 : decode bM_back 13 = .ok (.getfield 18, 3) := by decide +kernel
theorem dM_back_16 : decode bM_back 16 = .ok (.iload_n 1, 1) := by decide +kernel
theorem dM_back_17 : decode bM_back 17 = .ok (.baload, 1) := by decide +kernel
theorem dM_back_18 : decode bM_back 18 = .ok (.ifCond .ne 10, 3) := by decide +kernel
theorem dM_back_21 : decode bM_back 21 = .ok (.dload_n 2, 1) := by decide +kernel
theorem dM_back_22 : decode bM_back 22 = .ok (.invokestatic 62, 3) := by decide +kernel
theorem dM_back_25 : decode bM_back 25 = .ok (.ifCond .ne 5, 3) := by decide +kernel
theorem dM_back_28 : decode bM_back 28 = .ok (.iconst 0, 1) := by decide +kernel
theorem dM_back_29 : decode bM_back 29 = .ok (.ireturn, 1) := by decide +kernel
theorem dM_back_30 : decode bM_back 30 = .ok (.aload_n 0, 1) := by decide +kernel
theorem dM_back_31 : decode bM_back 31 = .ok (.getfield 15, 3) := by decide +kernel
theorem dM_back_34 : decode bM_back 34 = .ok (.iload_n 1, 1) := by decide +kernel
theorem dM_back_35 : decode bM_back 35 = .ok (.aaload, 1) := by decide +kernel
theorem dM_back_36 : decode bM_back 36 = .ok (.astore 4, 2) := by decide +kernel
theorem dM_back_38 : decode bM_back 38 = .ok (.aload_n 0, 1) := by decide +kernel
theorem dM_back_39 : decode bM_back 39 = .ok (.aload_n 0, 1) := by decide +kernel
theorem dM_back_40 : decode bM_back 40 = .ok (.getfield 68, 3) := by decide +kernel
theorem dM_back_43 : decode bM_back 43 = .ok (.aload_n 0, 1) := by decide +kernel
theorem dM_back_44 : decode bM_back 44 = .ok (.getfield 9, 3) := by decide +kernel
theorem dM_back_47 : decode bM_back 47 = .ok (.iconst 0, 1) := by decide +kernel
theorem dM_back_48 : decode bM_back 48 = .ok (.daload, 1) := by decide +kernel
theorem dM_back_49 : decode bM_back 49 = .ok (.dload_n 2, 1) := by decide +kernel
theorem dM_back_50 : decode bM_back 50 = .ok (.aload 4, 2) := by decide +kernel
theorem dM_back_52 : decode bM_back 52 = .ok (.iconst 0, 1) := by decide +kernel
theorem dM_back_53 : decode bM_back 53 = .ok (.daload, 1) := by decide +kernel
theorem dM_back_54 : decode bM_back 54 = .ok (.invokestatic 71, 3) := by decide +kernel
theorem dM_back_57 : decode bM_back 57 = .ok (.putfield 68, 3) := by decide +kernel
theorem dM_back_60 : decode bM_back 60 = .ok (.iconst 0, 1) := by decide +kernel
theorem dM_back_61 : decode bM_back 61 = .ok (.istore 5, 2) := by decide +kernel
theorem dM_back_63 : decode bM_back 63 = .ok (.iload 5, 2) := by decide +kernel
theorem dM_back_65 : decode bM_back 65 = .ok (.bipush 13, 2) := by decide +kernel
theorem dM_back_67 : decode bM_back 67 = .ok (.if_icmp .ge 29, 3) := by decide +kernel
theorem dM_back_70 : decode bM_back 70 = .ok (.aload_n 0, 1) := by decide +kernel
theorem dM_back_71 : decode bM_back 71 = .ok (.getfield 9, 3) := by decide +kernel
theorem dM_back_74 : decode bM_back 74 = .ok (.iload 5, 2) := by decide +kernel
theorem dM_back_76 : decode bM_back 76 = .ok (.aload_n 0, 1) := by decide +kernel
theorem dM_back_77 : decode bM_back 77 = .ok (.getfield 9, 3) := by decide +kernel
theorem dM_back_80 : decode bM_back 80 = .ok (.iload 5, 2) := by decide +kernel
theorem dM_back_82 : decode bM_back 82 = .ok (.daload, 1) := by decide +kernel
theorem dM_back_83 : decode bM_back 83 = .ok (.aload 4, 2) := by decide +kernel
theorem dM_back_85 : decode bM_back 85 = .ok (.iload 5, 2) := by decide +kernel
theorem dM_back_87 : decode bM_back 87 = .ok (.daload, 1) := by decide +kernel
theorem dM_back_88 : decode bM_back 88 = .ok (.dadd, 1) := by decide +kernel
theorem dM_back_89 : decode bM_back 89 = .ok (.dastore, 1) := by decide +kernel
theorem dM_back_90 : decode bM_back 90 = .ok (.iinc 5 1, 3) := by decide +kernel
theorem dM_back_93 : decode bM_back 93 = .ok (.goto (-30), 3) := by decide +kernel
theorem dM_back_96 : decode bM_back 96 = .ok (.aload_n 0, 1) := by decide +kernel
theorem dM_back_97 : decode bM_back 97 = .ok (.getfield 18, 3) := by decide +kernel
theorem dM_back_100 : decode bM_back 100 = .ok (.iload_n 1, 1) := by decide +kernel
theorem dM_back_101 : decode bM_back 101 = .ok (.iconst 1, 1) := by decide +kernel
theorem dM_back_102 : decode bM_back 102 = .ok (.bastore, 1) := by decide +kernel
theorem dM_back_103 : decode bM_back 103 = .ok (.iconst 1, 1) := by decide +kernel
theorem dM_back_104 : decode bM_back 104 = .ok (.ireturn, 1) := by decide +kernel
theorem dM_water_0 : decode bM_water 0 = .ok (.aload_n 0, 1) := by decide +kernel
end
section
theorem dM_water_1 : decode bM_water 1 = .ok (.getfield 9, 3) := by decide +kernel
theorem dM_water_4 : decode bM_water 4 = .ok (.iconst 0, 1) := by decide +kernel
theorem dM_water_5 : decode bM_water 5 = .ok (.daload, 1) := by decide +kernel
theorem dM_water_6 : decode bM_water 6 = .ok (.dreturn, 1) := by decide +kernel
theorem dM_converted_0 : decode bM_converted 0 = .ok (.aload_n 0, 1) := by decide +kernel
theorem dM_converted_1 : decode bM_converted 1 = .ok (.invokevirtual 90, 3) := by decide +kernel
theorem dM_converted_4 : decode bM_converted 4 = .ok (.ifCond .ne 23, 3) := by decide +kernel
theorem dM_converted_7 : decode bM_converted 7 = .ok (.ldc2_w 103, 3) := by decide +kernel
theorem dM_converted_10 : decode bM_converted 10 = .ok (.aload_n 0, 1) := by decide +kernel
theorem dM_converted_11 : decode bM_converted 11 = .ok (.invokevirtual 105, 3) := by decide +kernel
theorem dM_converted_14 : decode bM_converted 14 = .ok (.dmul, 1) := by decide +kernel
theorem dM_converted_15 : decode bM_converted 15 = .ok (.aload_n 0, 1) := by decide +kernel
theorem dM_converted_16 : decode bM_converted 16 = .ok (.getfield 41, 3) := by decide +kernel
theorem dM_converted_19 : decode bM_converted 19 = .ok (.dcmp .g, 1) := by decide +kernel
theorem dM_converted_20 : decode bM_converted 20 = .ok (.ifCond .gt 7, 3) := by decide +kernel
theorem dM_converted_23 : decode bM_converted 23 = .ok (.iconst 1, 1) := by decide +kernel
theorem dM_converted_24 : decode bM_converted 24 = .ok (.goto 4, 3) := by decide +kernel
theorem dM_converted_27 : decode bM_converted 27 = .ok (.iconst 0, 1) := by decide +kernel
theorem dM_converted_28 : decode bM_converted 28 = .ok (.ireturn, 1) := by decide +kernel
theorem dM_isEmpty_0 : decode bM_isEmpty 0 = .ok (.aload_n 0, 1) := by decide +kernel
theorem dM_isEmpty_1 : decode bM_isEmpty 1 = .ok (.getfield 56, 3) := by decide +kernel
theorem dM_isEmpty_4 : decode bM_isEmpty 4 = .ok (.ifCond .eq 10, 3) := by decide +kernel
theorem dM_isEmpty_7 : decode bM_isEmpty 7 = .ok (.aload_n 0, 1) := by decide +kernel
theorem dM_isEmpty_8 : decode bM_isEmpty 8 = .ok (.getfield 78, 3) := by decide +kernel
theorem dM_isEmpty_11 : decode bM_isEmpty 11 = .ok (.ifCond .ne 7, 3) := by decide +kernel
theorem dM_isEmpty_14 : decode bM_isEmpty 14 = .ok (.iconst 1, 1) := by decide +kernel
theorem dM_isEmpty_15 : decode bM_isEmpty 15 = .ok (.goto 4, 3) := by decide +kernel
theorem dM_isEmpty_18 : decode bM_isEmpty 18 = .ok (.iconst 0, 1) := by decide +kernel
theorem dM_isEmpty_19 : decode bM_isEmpty 19 = .ok (.ireturn, 1) := by decide +kernel
theorem dM_isTemperature_0 : decode bM_isTemperature 0 = .ok (.dload_n 0, 1) := by decide +kernel
theorem dM_isTemperature_1 : decode bM_isTemperature 1 = .ok (.dconst 0, 1) := by decide +kernel
theorem dM_isTemperature_2 : decode bM_isTemperature 2 = .ok (.dcmp .l, 1) := by decide +kernel
theorem dM_isTemperature_3 : decode bM_isTemperature 3 = .ok (.ifCond .lt 15, 3) := by decide +kernel
theorem dM_isTemperature_6 : decode bM_isTemperature 6 = .ok (.dload_n 0, 1) := by decide +kernel
theorem dM_isTemperature_7 : decode bM_isTemperature 7 = .ok (.ldc2_w 109, 3) := by decide +kernel
theorem dM_isTemperature_10 : decode bM_isTemperature 10 = .ok (.dcmp .g, 1) := by decide +kernel
theorem dM_isTemperature_11 : decode bM_isTemperature 11 = .ok (.ifCond .gt 7, 3) := by decide +kernel
theorem dM_isTemperature_14 : decode bM_isTemperature 14 = .ok (.iconst 1, 1) := by decide +kernel
theorem dM_isTemperature_15 : decode bM_isTemperature 15 = .ok (.goto 4, 3) := by decide +kernel
theorem dM_isTemperature_18 : decode bM_isTemperature 18 = .ok (.iconst 0, 1) := by decide +kernel
theorem dM_isTemperature_19 : decode bM_isTemperature 19 = .ok (.ireturn, 1) := by decide +kernel
theorem dM_mixed_0 : decode bM_mixed 0 = .ok (.dload_n 2, 1) := by decide +kernel
theorem dM_mixed_1 : decode bM_mixed 1 = .ok (.dload 6, 2) := by decide +kernel
theorem dM_mixed_3 : decode bM_mixed 3 = .ok (.dadd, 1) := by decide +kernel
theorem dM_mixed_4 : decode bM_mixed 4 = .ok (.dstore 8, 2) := by decide +kernel
theorem dM_mixed_6 : decode bM_mixed 6 = .ok (.dload 8, 2) := by decide +kernel
theorem dM_mixed_8 : decode bM_mixed 8 = .ok (.dconst 0, 1) := by decide +kernel
theorem dM_mixed_9 : decode bM_mixed 9 = .ok (.dcmp .l, 1) := by decide +kernel
theorem dM_mixed_10 : decode bM_mixed 10 = .ok (.ifCond .le 18, 3) := by decide +kernel
theorem dM_mixed_13 : decode bM_mixed 13 = .ok (.dload_n 0, 1) := by decide +kernel
theorem dM_mixed_14 : decode bM_mixed 14 = .ok (.dload_n 2, 1) := by decide +kernel
theorem dM_mixed_15 : decode bM_mixed 15 = .ok (.dmul, 1) := by decide +kernel
theorem dM_mixed_16 : decode bM_mixed 16 = .ok (.dload 4, 2) := by decide +kernel
theorem dM_mixed_18 : decode bM_mixed 18 = .ok (.dload 6, 2) := by decide +kernel
theorem dM_mixed_20 : decode bM_mixed 20 = .ok (.dmul, 1) := by decide +kernel
theorem dM_mixed_21 : decode bM_mixed 21 = .ok (.dadd, 1) := by decide +kernel
theorem dM_mixed_22 : decode bM_mixed 22 = .ok (.dload 8, 2) := by decide +kernel
theorem dM_mixed_24 : decode bM_mixed 24 = .ok (.ddiv, 1) := by decide +kernel
theorem dM_mixed_25 : decode bM_mixed 25 = .ok (.goto 4, 3) := by decide +kernel
theorem dM_mixed_28 : decode bM_mixed 28 = .ok (.dload_n 0, 1) := by decide +kernel
theorem dM_mixed_29 : decode bM_mixed 29 = .ok (.dreturn, 1) := by decide +kernel
theorem dM_passSecond_0 : decode bM_passSecond 0 = .ok (.aload_n 0, 1) := by decide +kernel
theorem dM_passSecond_1 : decode bM_passSecond 1 = .ok (.aload_n 0, 1) := by decide +kernel
theorem dM_passSecond_2 : decode bM_passSecond 2 = .ok (.getfield 28, 3) := by decide +kernel
theorem dM_passSecond_5 : decode bM_passSecond 5 = .ok (.aload_n 0, 1) := by decide +kernel
theorem dM_passSecond_6 : decode bM_passSecond 6 = .ok (.getfield 68, 3) := by decide +kernel
theorem dM_passSecond_9 : decode bM_passSecond 9 = .ok (.aload_n 0, 1) := by decide +kernel
theorem dM_passSecond_10 : decode bM_passSecond 10 = .ok (.getfield 81, 3) := by decide +kernel
theorem dM_passSecond_13 : decode bM_passSecond 13 = .ok (.invokevirtual 111, 3) := by decide +kernel
theorem dM_passSecond_16 : decode bM_passSecond 16 = .ok (.putfield 68, 3) := by decide +kernel
theorem dM_passSecond_19 : decode bM_passSecond 19 = .ok (.aload_n 0, 1) := by decide +kernel
theorem dM_passSecond_20 : decode bM_passSecond 20 = .ok (.getfield 35, 3) := by decide +kernel
theorem dM_passSecond_23 : decode bM_passSecond 23 = .ok (.aload_n 0, 1) := by decide +kernel
theorem dM_passSecond_24 : decode bM_passSecond 24 = .ok (.getfield 68, 3) := by decide +kernel
theorem dM_passSecond_27 : decode bM_passSecond 27 = .ok (.invokevirtual 115, 3) := by decide +kernel
theorem dM_passSecond_30 : decode bM_passSecond 30 = .ok (.aload_n 0, 1) := by decide +kernel
theorem dM_passSecond_31 : decode bM_passSecond 31 = .ok (.invokevirtual 119, 3) := by decide +kernel
theorem dM_passSecond_34 : decode bM_passSecond 34 = .ok (.aload_n 0, 1) := by decide +kernel
theorem dM_passSecond_35 : decode bM_passSecond 35 = .ok (.invokevirtual 122, 3) := by decide +kernel
theorem dM_passSecond_38 : decode bM_passSecond 38 = .ok (.aload_n 0, 1) := by decide +kernel
theorem dM_passSecond_39 : decode bM_passSecond 39 = .ok (.invokevirtual 125, 3) := by decide +kernel
theorem dM_passSecond_42 : decode bM_passSecond 42 = .ok (.aload_n 0, 1) := by decide +kernel
theorem dM_passSecond_43 : decode bM_passSecond 43 = .ok (.invokevirtual 128, 3) := by decide +kernel
theorem dM_passSecond_46 : decode bM_passSecond 46 = .ok (.aload_n 0, 1) := by decide +kernel
theorem dM_passSecond_47 : decode bM_passSecond 47 = .ok (.invokevirtual 131, 3) := by decide +kernel
theorem dM_passSecond_50 : decode bM_passSecond 50 = .ok (.aload_n 0, 1) := by decide +kernel
theorem dM_passSecond_51 : decode bM_passSecond 51 = .ok (.invokevirtual 134, 3) := by decide +kernel
theorem dM_passSecond_54 : decode bM_passSecond 54 = .ok (.aload_n 0, 1) := by decide +kernel
theorem dM_passSecond_55 : decode bM_passSecond 55 = .ok (.invokevirtual 137, 3) := by decide +kernel
theorem dM_passSecond_58 : decode bM_passSecond 58 = .ok (.aload_n 0, 1) := by decide +kernel
theorem dM_passSecond_59 : decode bM_passSecond 59 = .ok (.aload_n 0, 1) := by decide +kernel
theorem dM_passSecond_60 : decode bM_passSecond 60 = .ok (.getfield 81, 3) := by decide +kernel
theorem dM_passSecond_63 : decode bM_passSecond 63 = .ok (.iconst 1, 1) := by decide +kernel
theorem dM_passSecond_64 : decode bM_passSecond 64 = .ok (.iadd, 1) := by decide +kernel
theorem dM_passSecond_65 : decode bM_passSecond 65 = .ok (.putfield 81, 3) := by decide +kernel
theorem dM_passSecond_68 : decode bM_passSecond 68 = .ok (.return_, 1) := by decide +kernel
theorem dM_reckonActions_0 : decode bM_reckonActions 0 = .ok (.aload_n 0, 1) := by decide +kernel
theorem dM_reckonActions_1 : decode bM_reckonActions 1 = .ok (.invokevirtual 140, 3) := by decide +kernel
theorem dM_reckonActions_4 : decode bM_reckonActions 4 = .ok (.dstore_n 1, 1) := by decide +kernel
theorem dM_reckonActions_5 : decode bM_reckonActions 5 = .ok (.aload_n 0, 1) := by decide +kernel
theorem dM_reckonActions_6 : decode bM_reckonActions 6 = .ok (.getfield 9, 3) := by decide +kernel
theorem dM_reckonActions_9 : decode bM_reckonActions 9 = .ok (.iconst 0, 1) := by decide +kernel
theorem dM_reckonActions_10 : decode bM_reckonActions 10 = .ok (.daload, 1) := by decide +kernel
theorem dM_reckonActions_11 : decode bM_reckonActions 11 = .ok (.dstore_n 3, 1) := by decide +kernel
theorem dM_reckonActions_12 : decode bM_reckonActions 12 = .ok (.iconst 0, 1) := by decide +kernel
theorem dM_reckonActions_13 : decode bM_reckonActions 13 = .ok (.istore 5, 2) := by decide +kernel
theorem dM_reckonActions_15 : decode bM_reckonActions 15 = .ok (.iload 5, 2) := by decide +kernel
theorem dM_reckonActions_17 : decode bM_reckonActions 17 = .ok (.iconst 4, 1) := by decide +kernel
theorem dM_reckonActions_18 : decode bM_reckonActions 18 = .ok (.if_icmp .ge 62, 3) := by decide +kernel
theorem dM_reckonActions_21 : decode bM_reckonActions 21 = .ok (.aload_n 0, 1) := by decide +kernel
theorem dM_reckonActions_22 : decode bM_reckonActions 22 = .ok (.getfield 9, 3) := by decide +kernel
theorem dM_reckonActions_25 : decode bM_reckonActions 25 = .ok (.bipush 9, 2) := by decide +kernel
theorem dM_reckonActions_27 : decode bM_reckonActions 27 = .ok (.iload 5, 2) := by decide +kernel
theorem dM_reckonActions_29 : decode bM_reckonActions 29 = .ok (.iadd, 1) := by decide +kernel
theorem dM_reckonActions_30 : decode bM_reckonActions 30 = .ok (.daload, 1) := by decide +kernel
theorem dM_reckonActions_31 : decode bM_reckonActions 31 = .ok (.aload_n 0, 1) := by decide +kernel
theorem dM_reckonActions_32 : decode bM_reckonActions 32 = .ok (.getfield 35, 3) := by decide +kernel
theorem dM_reckonActions_35 : decode bM_reckonActions 35 = .ok (.iload 5, 2) := by decide +kernel
theorem dM_reckonActions_37 : decode bM_reckonActions 37 = .ok (.invokevirtual 143, 3) := by decide +kernel
theorem dM_reckonActions_40 : decode bM_reckonActions 40 = .ok (.dmul, 1) := by decide +kernel
theorem dM_reckonActions_41 : decode bM_reckonActions 41 = .ok (.dload_n 1, 1) := by decide +kernel
theorem dM_reckonActions_42 : decode bM_reckonActions 42 = .ok (.dmul, 1) := by decide +kernel
theorem dM_reckonActions_43 : decode bM_reckonActions 43 = .ok (.dstore 6, 2) := by decide +kernel
theorem dM_reckonActions_45 : decode bM_reckonActions 45 = .ok (.aload_n 0, 1) := by decide +kernel
theorem dM_reckonActions_46 : decode bM_reckonActions 46 = .ok (.getfield 22, 3) := by decide +kernel
theorem dM_reckonActions_49 : decode bM_reckonActions 49 = .ok (.iload 5, 2) := by decide +kernel
theorem dM_reckonActions_51 : decode bM_reckonActions 51 = .ok (.dload 6, 2) := by decide +kernel
theorem dM_reckonActions_53 : decode bM_reckonActions 53 = .ok (.dconst 0, 1) := by decide +kernel
theorem dM_reckonActions_54 : decode bM_reckonActions 54 = .ok (.dcmp .l, 1) := by decide +kernel
theorem dM_reckonActions_55 : decode bM_reckonActions 55 = .ok (.ifCond .le 17, 3) := by decide +kernel
theorem dM_reckonActions_58 : decode bM_reckonActions 58 = .ok (.dload 6, 2) := by decide +kernel
theorem dM_reckonActions_60 : decode bM_reckonActions 60 = .ok (.dload 6, 2) := by decide +kernel
theorem dM_reckonActions_62 : decode bM_reckonActions 62 = .ok (.dload_n 3, 1) := by decide +kernel
theorem dM_reckonActions_63 : decode bM_reckonActions 63 = .ok (.dadd, 1) := by decide +kernel
theorem dM_reckonActions_64 : decode bM_reckonActions 64 = .ok (.ddiv, 1) := by decide +kernel
theorem dM_reckonActions_65 : decode bM_reckonActions 65 = .ok (.ldc2_w 147, 3) := by decide +kernel
theorem dM_reckonActions_68 : decode bM_reckonActions 68 = .ok (.dmul, 1) := by decide +kernel
theorem dM_reckonActions_69 : decode bM_reckonActions 69 = .ok (.goto 4, 3) := by decide +kernel
theorem dM_reckonActions_72 : decode bM_reckonActions 72 = .ok (.dconst 0, 1) := by decide +kernel
theorem dM_reckonActions_73 : decode bM_reckonActions 73 = .ok (.dastore, 1) := by decide +kernel
theorem dM_reckonActions_74 : decode bM_reckonActions 74 = .ok (.iinc 5 1, 3) := by decide +kernel
theorem dM_reckonActions_77 : decode bM_reckonActions 77 = .ok (.goto (-62), 3) := by decide +kernel
theorem dM_reckonActions_80 : decode bM_reckonActions 80 = .ok (.return_, 1) := by decide +kernel
theorem dM_acidityFitness_0 : decode bM_acidityFitness 0 = .ok (.dconst 1, 1) := by decide +kernel
theorem dM_acidityFitness_1 : decode bM_acidityFitness 1 = .ok (.aload_n 0, 1) := by decide +kernel
theorem dM_acidityFitness_2 : decode bM_acidityFitness 2 = .ok (.getfield 75, 3) := by decide +kernel
theorem dM_acidityFitness_5 : decode bM_acidityFitness 5 = .ok (.ldc2_w 149, 3) := by decide +kernel
theorem dM_acidityFitness_8 : decode bM_acidityFitness 8 = .ok (.dsub, 1) := by decide +kernel
theorem dM_acidityFitness_9 : decode bM_acidityFitness 9 = .ok (.aload_n 0, 1) := by decide +kernel
theorem dM_acidityFitness_10 : decode bM_acidityFitness 10 = .ok (.getfield 75, 3) := by decide +kernel
theorem dM_acidityFitness_13 : decode bM_acidityFitness 13 = .ok (.ldc2_w 149, 3) := by decide +kernel
theorem dM_acidityFitness_16 : decode bM_acidityFitness 16 = .ok (.dsub, 1) := by decide +kernel
theorem dM_acidityFitness_17 : decode bM_acidityFitness 17 = .ok (.dmul, 1) := by decide +kernel
theorem dM_acidityFitness_18 : decode bM_acidityFitness 18 = .ok (.ldc2_w 151, 3) := by decide +kernel
theorem dM_acidityFitness_21 : decode bM_acidityFitness 21 = .ok (.dmul, 1) := by decide +kernel
theorem dM_acidityFitness_22 : decode bM_acidityFitness 22 = .ok (.dsub, 1) := by decide +kernel
theorem dM_acidityFitness_23 : decode bM_acidityFitness 23 = .ok (.dstore_n 1, 1) := by decide +kernel
theorem dM_acidityFitness_24 : decode bM_acidityFitness 24 = .ok (.dload_n 1, 1) := by decide +kernel
theorem dM_acidityFitness_25 : decode bM_acidityFitness 25 = .ok (.dconst 0, 1) := by decide +kernel
theorem dM_acidityFitness_26 : decode bM_acidityFitness 26 = .ok (.dcmp .g, 1) := by decide +kernel
theorem dM_acidityFitness_27 : decode bM_acidityFitness 27 = .ok (.ifCond .ge 7, 3) := by decide +kernel
theorem dM_acidityFitness_30 : decode bM_acidityFitness 30 = .ok (.dconst 0, 1) := by decide +kernel
theorem dM_acidityFitness_31 : decode bM_acidityFitness 31 = .ok (.goto 4, 3) := by decide +kernel
theorem dM_acidityFitness_34 : decode bM_acidityFitness 34 = .ok (.dload_n 1, 1) := by decide +kernel
theorem dM_acidityFitness_35 : decode bM_acidityFitness 35 = .ok (.dreturn, 1) := by decide +kernel
theorem dM_gelStarch_0 : decode bM_gelStarch 0 = .ok (.aload_n 0, 1) := by decide +kernel
theorem dM_gelStarch_1 : decode bM_gelStarch 1 = .ok (.getfield 9, 3) := by decide +kernel
theorem dM_gelStarch_4 : decode bM_gelStarch 4 = .ok (.iconst 1, 1) := by decide +kernel
theorem dM_gelStarch_5 : decode bM_gelStarch 5 = .ok (.daload, 1) := by decide +kernel
theorem dM_gelStarch_6 : decode bM_gelStarch 6 = .ok (.aload_n 0, 1) := by decide +kernel
theorem dM_gelStarch_7 : decode bM_gelStarch 7 = .ok (.getfield 35, 3) := by decide +kernel
theorem dM_gelStarch_10 : decode bM_gelStarch 10 = .ok (.invokevirtual 153, 3) := by decide +kernel
theorem dM_gelStarch_13 : decode bM_gelStarch 13 = .ok (.dmul, 1) := by decide +kernel
theorem dM_gelStarch_14 : decode bM_gelStarch 14 = .ok (.dstore_n 1, 1) := by decide +kernel
theorem dM_gelStarch_15 : decode bM_gelStarch 15 = .ok (.aload_n 0, 1) := by decide +kernel
theorem dM_gelStarch_16 : decode bM_gelStarch 16 = .ok (.getfield 9, 3) := by decide +kernel
theorem dM_gelStarch_19 : decode bM_gelStarch 19 = .ok (.iconst 1, 1) := by decide +kernel
theorem dM_gelStarch_20 : decode bM_gelStarch 20 = .ok (.aload_n 0, 1) := by decide +kernel
theorem dM_gelStarch_21 : decode bM_gelStarch 21 = .ok (.getfield 9, 3) := by decide +kernel
theorem dM_gelStarch_24 : decode bM_gelStarch 24 = .ok (.iconst 1, 1) := by decide +kernel
theorem dM_gelStarch_25 : decode bM_gelStarch 25 = .ok (.daload, 1) := by decide +kernel
theorem dM_gelStarch_26 : decode bM_gelStarch 26 = .ok (.dload_n 1, 1) := by decide +kernel
theorem dM_gelStarch_27 : decode bM_gelStarch 27 = .ok (.dsub, 1) := by decide +kernel
theorem dM_gelStarch_28 : decode bM_gelStarch 28 = .ok (.dastore, 1) := by decide +kernel
theorem dM_gelStarch_29 : decode bM_gelStarch 29 = .ok (.aload_n 0, 1) := by decide +kernel
theorem dM_gelStarch_30 : decode bM_gelStarch 30 = .ok (.getfield 9, 3) := by decide +kernel
theorem dM_gelStarch_33 : decode bM_gelStarch 33 = .ok (.iconst 2, 1) := by decide +kernel
theorem dM_gelStarch_34 : decode bM_gelStarch 34 = .ok (.aload_n 0, 1) := by decide +kernel
theorem dM_gelStarch_35 : decode bM_gelStarch 35 = .ok (.getfield 9, 3) := by decide +kernel
theorem dM_gelStarch_38 : decode bM_gelStarch 38 = .ok (.iconst 2, 1) := by decide +kernel
theorem dM_gelStarch_39 : decode bM_gelStarch 39 = .ok (.daload, 1) := by decide +kernel
theorem dM_gelStarch_40 : decode bM_gelStarch 40 = .ok (.dload_n 1, 1) := by decide +kernel
theorem dM_gelStarch_41 : decode bM_gelStarch 41 = .ok (.dadd, 1) := by decide +kernel
theorem dM_gelStarch_42 : decode bM_gelStarch 42 = .ok (.dastore, 1) := by decide +kernel
theorem dM_gelStarch_43 : decode bM_gelStarch 43 = .ok (.return_, 1) := by decide +kernel
theorem dM_splitGelledStarch_0 : decode bM_splitGelledStarch 0 = .ok (.aload_n 0, 1) := by decide +kernel
theorem dM_splitGelledStarch_1 : decode bM_splitGelledStarch 1 = .ok (.getfield 9, 3) := by decide +kernel
theorem dM_splitGelledStarch_4 : decode bM_splitGelledStarch 4 = .ok (.iconst 2, 1) := by decide +kernel
theorem dM_splitGelledStarch_5 : decode bM_splitGelledStarch 5 = .ok (.daload, 1) := by decide +kernel
theorem dM_splitGelledStarch_6 : decode bM_splitGelledStarch 6 = .ok (.aload_n 0, 1) := by decide +kernel
theorem dM_splitGelledStarch_7 : decode bM_splitGelledStarch 7 = .ok (.getfield 22, 3) := by decide +kernel
theorem dM_splitGelledStarch_10 : decode bM_splitGelledStarch 10 = .ok (.iconst 0, 1) := by decide +kernel
theorem dM_splitGelledStarch_11 : decode bM_splitGelledStarch 11 = .ok (.daload, 1) := by decide +kernel
theorem dM_splitGelledStarch_12 : decode bM_splitGelledStarch 12 = .ok (.dmul, 1) := by decide +kernel
theorem dM_splitGelledStarch_13 : decode bM_splitGelledStarch 13 = .ok (.dstore_n 1, 1) := by decide +kernel
theorem dM_splitGelledStarch_14 : decode bM_splitGelledStarch 14 = .ok (.aload_n 0, 1) := by decide +kernel
theorem dM_splitGelledStarch_15 : decode bM_splitGelledStarch 15 = .ok (.getfield 9, 3) := by decide +kernel
theorem dM_splitGelledStarch_18 : decode bM_splitGelledStarch 18 = .ok (.iconst 2, 1) := by decide +kernel
theorem dM_splitGelledStarch_19 : decode bM_splitGelledStarch 19 = .ok (.aload_n 0, 1) := by decide +kernel
theorem dM_splitGelledStarch_20 : decode bM_splitGelledStarch 20 = .ok (.getfield 9, 3) := by decide +kernel
theorem dM_splitGelledStarch_23 : decode bM_splitGelledStarch 23 = .ok (.iconst 2, 1) := by decide +kernel
theorem dM_splitGelledStarch_24 : decode bM_splitGelledStarch 24 = .ok (.daload, 1) := by decide +kernel
theorem dM_splitGelledStarch_25 : decode bM_splitGelledStarch 25 = .ok (.dload_n 1, 1) := by decide +kernel
theorem dM_splitGelledStarch_26 : decode bM_splitGelledStarch 26 = .ok (.dsub, 1) := by decide +kernel
theorem dM_splitGelledStarch_27 : decode bM_splitGelledStarch 27 = .ok (.dastore, 1) := by decide +kernel
theorem dM_splitGelledStarch_28 : decode bM_splitGelledStarch 28 = .ok (.aload_n 0, 1) := by decide +kernel
theorem dM_splitGelledStarch_29 : decode bM_splitGelledStarch 29 = .ok (.getfield 9, 3) := by decide +kernel
theorem dM_splitGelledStarch_32 : decode bM_splitGelledStarch 32 = .ok (.bipush 6, 2) := by decide +kernel
theorem dM_splitGelledStarch_34 : decode bM_splitGelledStarch 34 = .ok (.aload_n 0, 1) := by decide +kernel
theorem dM_splitGelledStarch_35 : decode bM_splitGelledStarch 35 = .ok (.getfield 9, 3) := by decide +kernel
theorem dM_splitGelledStarch_38 : decode bM_splitGelledStarch 38 = .ok (.bipush 6, 2) := by decide +kernel
theorem dM_splitGelledStarch_40 : decode bM_splitGelledStarch 40 = .ok (.daload, 1) := by decide +kernel
theorem dM_splitGelledStarch_41 : decode bM_splitGelledStarch 41 = .ok (.dload_n 1, 1) := by decide +kernel
theorem dM_splitGelledStarch_42 : decode bM_splitGelledStarch 42 = .ok (.ldc2_w 156, 3) := by decide +kernel
theorem dM_splitGelledStarch_45 : decode bM_splitGelledStarch 45 = .ok (.dmul, 1) := by decide +kernel
theorem dM_splitGelledStarch_46 : decode bM_splitGelledStarch 46 = .ok (.dadd, 1) := by decide +kernel
theorem dM_splitGelledStarch_47 : decode bM_splitGelledStarch 47 = .ok (.dastore, 1) := by decide +kernel
theorem dM_splitGelledStarch_48 : decode bM_splitGelledStarch 48 = .ok (.aload_n 0, 1) := by decide +kernel
theorem dM_splitGelledStarch_49 : decode bM_splitGelledStarch 49 = .ok (.getfield 9, 3) := by decide +kernel
theorem dM_splitGelledStarch_52 : decode bM_splitGelledStarch 52 = .ok (.iconst 5, 1) := by decide +kernel
theorem dM_splitGelledStarch_53 : decode bM_splitGelledStarch 53 = .ok (.aload_n 0, 1) := by decide +kernel
theorem dM_splitGelledStarch_54 : decode bM_splitGelledStarch 54 = .ok (.getfield 9, 3) := by decide +kernel
theorem dM_splitGelledStarch_57 : decode bM_splitGelledStarch 57 = .ok (.iconst 5, 1) := by decide +kernel
theorem dM_splitGelledStarch_58 : decode bM_splitGelledStarch 58 = .ok (.daload, 1) := by decide +kernel
theorem dM_splitGelledStarch_59 : decode bM_splitGelledStarch 59 = .ok (.dload_n 1, 1) := by decide +kernel
theorem dM_splitGelledStarch_60 : decode bM_splitGelledStarch 60 = .ok (.ldc2_w 151, 3) := by decide +kernel
theorem dM_splitGelledStarch_63 : decode bM_splitGelledStarch 63 = .ok (.dmul, 1) := by decide +kernel
theorem dM_splitGelledStarch_64 : decode bM_splitGelledStarch 64 = .ok (.dadd, 1) := by decide +kernel
theorem dM_splitGelledStarch_65 : decode bM_splitGelledStarch 65 = .ok (.dastore, 1) := by decide +kernel
theorem dM_splitGelledStarch_66 : decode bM_splitGelledStarch 66 = .ok (.return_, 1) := by decide +kernel
theorem dM_splitDextrinsToMaltose_0 : decode bM_splitDextrinsToMaltose 0 = .ok (.aload_n 0, 1) := by decide +kernel
theorem dM_splitDextrinsToMaltose_1 : decode bM_splitDextrinsToMaltose 1 = .ok (.getfield 9, 3) := by decide +kernel
theorem dM_splitDextrinsToMaltose_4 : decode bM_splitDextrinsToMaltose 4 = .ok (.bipush 6, 2) := by decide +kernel
theorem dM_splitDextrinsToMaltose_6 : decode bM_splitDextrinsToMaltose 6 = .ok (.daload, 1) := by decide +kernel
theorem dM_splitDextrinsToMaltose_7 : decode bM_splitDextrinsToMaltose 7 = .ok (.aload_n 0, 1) := by decide +kernel
theorem dM_splitDextrinsToMaltose_8 : decode bM_splitDextrinsToMaltose 8 = .ok (.getfield 22, 3) := by decide +kernel
theorem dM_splitDextrinsToMaltose_11 : decode bM_splitDextrinsToMaltose 11 = .ok (.iconst 1, 1) := by decide +kernel
theorem dM_splitDextrinsToMaltose_12 : decode bM_splitDextrinsToMaltose 12 = .ok (.daload, 1) := by decide +kernel
theorem dM_splitDextrinsToMaltose_13 : decode bM_splitDextrinsToMaltose 13 = .ok (.dmul, 1) := by decide +kernel
theorem dM_splitDextrinsToMaltose_14 : decode bM_splitDextrinsToMaltose 14 = .ok (.aload_n 0, 1) := by decide +kernel
theorem dM_splitDextrinsToMaltose_15 : decode bM_splitDextrinsToMaltose 15 = .ok (.getfield 9, 3) := by decide +kernel
theorem dM_splitDextrinsToMaltose_18 : decode bM_splitDextrinsToMaltose 18 = .ok (.iconst 0, 1) := by decide +kernel
theorem dM_splitDextrinsToMaltose_19 : decode bM_splitDextrinsToMaltose 19 = .ok (.daload, 1) := by decide +kernel
theorem dM_splitDextrinsToMaltose_20 : decode bM_splitDextrinsToMaltose 20 = .ok (.ldc2_w 54, 3) := by decide +kernel
theorem dM_splitDextrinsToMaltose_23 : decode bM_splitDextrinsToMaltose 23 = .ok (.dmul, 1) := by decide +kernel
theorem dM_splitDextrinsToMaltose_24 : decode bM_splitDextrinsToMaltose 24 = .ok (.invokestatic 158, 3) := by decide +kernel
theorem dM_splitDextrinsToMaltose_27 : decode bM_splitDextrinsToMaltose 27 = .ok (.dstore_n 1, 1) := by decide +kernel
theorem dM_splitDextrinsToMaltose_28 : decode bM_splitDextrinsToMaltose 28 = .ok (.aload_n 0, 1) := by decide +kernel
theorem dM_splitDextrinsToMaltose_29 : decode bM_splitDextrinsToMaltose 29 = .ok (.getfield 9, 3) := by decide +kernel
theorem dM_splitDextrinsToMaltose_32 : decode bM_splitDextrinsToMaltose 32 = .ok (.bipush 6, 2) := by decide +kernel
theorem dM_splitDextrinsToMaltose_34 : decode bM_splitDextrinsToMaltose 34 = .ok (.aload_n 0, 1) := by decide +kernel
theorem dM_splitDextrinsToMaltose_35 : decode bM_splitDextrinsToMaltose 35 = .ok (.getfield 9, 3) := by decide +kernel
theorem dM_splitDextrinsToMaltose_38 : decode bM_splitDextrinsToMaltose 38 = .ok (.bipush 6, 2) := by decide +kernel
theorem dM_splitDextrinsToMaltose_40 : decode bM_splitDextrinsToMaltose 40 = .ok (.daload, 1) := by decide +kernel
theorem dM_splitDextrinsToMaltose_41 : decode bM_splitDextrinsToMaltose 41 = .ok (.dload_n 1, 1) := by decide +kernel
theorem dM_splitDextrinsToMaltose_42 : decode bM_splitDextrinsToMaltose 42 = .ok (.dsub, 1) := by decide +kernel
theorem dM_splitDextrinsToMaltose_43 : decode bM_splitDextrinsToMaltose 43 = .ok (.dastore, 1) := by decide +kernel
theorem dM_splitDextrinsToMaltose_44 : decode bM_splitDextrinsToMaltose 44 = .ok (.aload_n 0, 1) := by decide +kernel
theorem dM_splitDextrinsToMaltose_45 : decode bM_splitDextrinsToMaltose 45 = .ok (.getfield 9, 3) := by decide +kernel
theorem dM_splitDextrinsToMaltose_48 : decode bM_splitDextrinsToMaltose 48 = .ok (.iconst 4, 1) := by decide +kernel
theorem dM_splitDextrinsToMaltose_49 : decode bM_splitDextrinsToMaltose 49 = .ok (.aload_n 0, 1) := by decide +kernel
theorem dM_splitDextrinsToMaltose_50 : decode bM_splitDextrinsToMaltose 50 = .ok (.getfield 9, 3) := by decide +kernel
theorem dM_splitDextrinsToMaltose_53 : decode bM_splitDextrinsToMaltose 53 = .ok (.iconst 4, 1) := by decide +kernel
theorem dM_splitDextrinsToMaltose_54 : decode bM_splitDextrinsToMaltose 54 = .ok (.daload, 1) := by decide +kernel
theorem dM_splitDextrinsToMaltose_55 : decode bM_splitDextrinsToMaltose 55 = .ok (.dload_n 1, 1) := by decide +kernel
theorem dM_splitDextrinsToMaltose_56 : decode bM_splitDextrinsToMaltose 56 = .ok (.ldc2_w 162, 3) := by decide +kernel
theorem dM_splitDextrinsToMaltose_59 : decode bM_splitDextrinsToMaltose 59 = .ok (.dmul, 1) := by decide +kernel
theorem dM_splitDextrinsToMaltose_60 : decode bM_splitDextrinsToMaltose 60 = .ok (.dadd, 1) := by decide +kernel
theorem dM_splitDextrinsToMaltose_61 : decode bM_splitDextrinsToMaltose 61 = .ok (.dastore, 1) := by decide +kernel
theorem dM_splitDextrinsToMaltose_62 : decode bM_splitDextrinsToMaltose 62 = .ok (.aload_n 0, 1) := by decide +kernel
theorem dM_splitDextrinsToMaltose_63 : decode bM_splitDextrinsToMaltose 63 = .ok (.getfield 9, 3) := by decide +kernel
theorem dM_splitDextrinsToMaltose_66 : decode bM_splitDextrinsToMaltose 66 = .ok (.iconst 0, 1) := by decide +kernel
theorem dM_splitDextrinsToMaltose_67 : decode bM_splitDextrinsToMaltose 67 = .ok (.aload_n 0, 1) := by decide +kernel
theorem dM_splitDextrinsToMaltose_68 : decode bM_splitDextrinsToMaltose 68 = .ok (.getfield 9, 3) := by decide +kernel
theorem dM_splitDextrinsToMaltose_71 : decode bM_splitDextrinsToMaltose 71 = .ok (.iconst 0, 1) := by decide +kernel
theorem dM_splitDextrinsToMaltose_72 : decode bM_splitDextrinsToMaltose 72 = .ok (.daload, 1) := by decide +kernel
theorem dM_splitDextrinsToMaltose_73 : decode bM_splitDextrinsToMaltose 73 = .ok (.dload_n 1, 1) := by decide +kernel
theorem dM_splitDextrinsToMaltose_74 : decode bM_splitDextrinsToMaltose 74 = .ok (.ldc2_w 147, 3) := by decide +kernel
theorem dM_splitDextrinsToMaltose_77 : decode bM_splitDextrinsToMaltose 77 = .ok (.dmul, 1) := by decide +kernel
theorem dM_splitDextrinsToMaltose_78 : decode bM_splitDextrinsToMaltose 78 = .ok (.dsub, 1) := by decide +kernel
theorem dM_splitDextrinsToMaltose_79 : decode bM_splitDextrinsToMaltose 79 = .ok (.dastore, 1) := by decide +kernel
theorem dM_splitDextrinsToMaltose_80 : decode bM_splitDextrinsToMaltose 80 = .ok (.return_, 1) := by decide +kernel
theorem dM_splitDextrinsToGlucose_0 : decode bM_splitDextrinsToGlucose 0 = .ok (.aload_n 0, 1) := by decide +kernel
theorem dM_splitDextrinsToGlucose_1 : decode bM_splitDextrinsToGlucose 1 = .ok (.getfield 9, 3) := by decide +kernel
theorem dM_splitDextrinsToGlucose_4 : decode bM_splitDextrinsToGlucose 4 = .ok (.bipush 6, 2) := by decide +kernel
theorem dM_splitDextrinsToGlucose_6 : decode bM_splitDextrinsToGlucose 6 = .ok (.daload, 1) := by decide +kernel
theorem dM_splitDextrinsToGlucose_7 : decode bM_splitDextrinsToGlucose 7 = .ok (.aload_n 0, 1) := by decide +kernel
theorem dM_splitDextrinsToGlucose_8 : decode bM_splitDextrinsToGlucose 8 = .ok (.getfield 22, 3) := by decide +kernel
theorem dM_splitDextrinsToGlucose_11 : decode bM_splitDextrinsToGlucose 11 = .ok (.iconst 2, 1) := by decide +kernel
theorem dM_splitDextrinsToGlucose_12 : decode bM_splitDextrinsToGlucose 12 = .ok (.daload, 1) := by decide +kernel
theorem dM_splitDextrinsToGlucose_13 : decode bM_splitDextrinsToGlucose 13 = .ok (.dmul, 1) := by decide +kernel
theorem dM_splitDextrinsToGlucose_14 : decode bM_splitDextrinsToGlucose 14 = .ok (.aload_n 0, 1) := by decide +kernel
theorem dM_splitDextrinsToGlucose_15 : decode bM_splitDextrinsToGlucose 15 = .ok (.getfield 9, 3) := by decide +kernel
theorem dM_splitDextrinsToGlucose_18 : decode bM_splitDextrinsToGlucose 18 = .ok (.iconst 0, 1) := by decide +kernel
theorem dM_splitDextrinsToGlucose_19 : decode bM_splitDextrinsToGlucose 19 = .ok (.daload, 1) := by decide +kernel
theorem dM_splitDextrinsToGlucose_20 : decode bM_splitDextrinsToGlucose 20 = .ok (.ldc2_w 164, 3) := by decide +kernel
theorem dM_splitDextrinsToGlucose_23 : decode bM_splitDextrinsToGlucose 23 = .ok (.dmul, 1) := by decide +kernel
theorem dM_splitDextrinsToGlucose_24 : decode bM_splitDextrinsToGlucose 24 = .ok (.invokestatic 158, 3) := by decide +kernel
theorem dM_splitDextrinsToGlucose_27 : decode bM_splitDextrinsToGlucose 27 = .ok (.dstore_n 1, 1) := by decide +kernel
theorem dM_splitDextrinsToGlucose_28 : decode bM_splitDextrinsToGlucose 28 = .ok (.aload_n 0, 1) := by decide +kernel
theorem dM_splitDextrinsToGlucose_29 : decode bM_splitDextrinsToGlucose 29 = .ok (.getfield 9, 3) := by decide +kernel
theorem dM_splitDextrinsToGlucose_32 : decode bM_splitDextrinsToGlucose 32 = .ok (.bipush 6, 2) := by decide +kernel
theorem dM_splitDextrinsToGlucose_34 : decode bM_splitDextrinsToGlucose 34 = .ok (.aload_n 0, 1) := by decide +kernel
theorem dM_splitDextrinsToGlucose_35 : decode bM_splitDextrinsToGlucose 35 = .ok (.getfield 9, 3) := by decide +kernel
theorem dM_splitDextrinsToGlucose_38 : decode bM_splitDextrinsToGlucose 38 = .ok (.bipush 6, 2) := by decide +kernel
theorem dM_splitDextrinsToGlucose_40 : decode bM_splitDextrinsToGlucose 40 = .ok (.daload, 1) := by decide +kernel
theorem dM_splitDextrinsToGlucose_41 : decode bM_splitDextrinsToGlucose 41 = .ok (.dload_n 1, 1) := by decide +kernel
theorem dM_splitDextrinsToGlucose_42 : decode bM_splitDextrinsToGlucose 42 = .ok (.dsub, 1) := by decide +kernel
theorem dM_splitDextrinsToGlucose_43 : decode bM_splitDextrinsToGlucose 43 = .ok (.dastore, 1) := by decide +kernel
theorem dM_splitDextrinsToGlucose_44 : decode bM_splitDextrinsToGlucose 44 = .ok (.aload_n 0, 1) := by decide +kernel
theorem dM_splitDextrinsToGlucose_45 : decode bM_splitDextrinsToGlucose 45 = .ok (.getfield 9, 3) := by decide +kernel
theorem dM_splitDextrinsToGlucose_48 : decode bM_splitDextrinsToGlucose 48 = .ok (.iconst 3, 1) := by decide +kernel
theorem dM_splitDextrinsToGlucose_49 : decode bM_splitDextrinsToGlucose 49 = .ok (.aload_n 0, 1) := by decide +kernel
theorem dM_splitDextrinsToGlucose_50 : decode bM_splitDextrinsToGlucose 50 = .ok (.getfield 9, 3) := by decide +kernel
theorem dM_splitDextrinsToGlucose_53 : decode bM_splitDextrinsToGlucose 53 = .ok (.iconst 3, 1) := by decide +kernel
theorem dM_splitDextrinsToGlucose_54 : decode bM_splitDextrinsToGlucose 54 = .ok (.daload, 1) := by decide +kernel
theorem dM_splitDextrinsToGlucose_55 : decode bM_splitDextrinsToGlucose 55 = .ok (.dload_n 1, 1) := by decide +kernel
theorem dM_splitDextrinsToGlucose_56 : decode bM_splitDextrinsToGlucose 56 = .ok (.ldc2_w 166, 3) := by decide +kernel
theorem dM_splitDextrinsToGlucose_59 : decode bM_splitDextrinsToGlucose 59 = .ok (.dmul, 1) := by decide +kernel
theorem dM_splitDextrinsToGlucose_60 : decode bM_splitDextrinsToGlucose 60 = .ok (.dadd, 1) := by decide +kernel
theorem dM_splitDextrinsToGlucose_61 : decode bM_splitDextrinsToGlucose 61 = .ok (.dastore, 1) := by decide +kernel
theorem dM_splitDextrinsToGlucose_62 : decode bM_splitDextrinsToGlucose 62 = .ok (.aload_n 0, 1) := by decide +kernel
theorem dM_splitDextrinsToGlucose_63 : decode bM_splitDextrinsToGlucose 63 = .ok (.getfield 9, 3) := by decide +kernel
theorem dM_splitDextrinsToGlucose_66 : decode bM_splitDextrinsToGlucose 66 = .ok (.iconst 0, 1) := by decide +kernel
theorem dM_splitDextrinsToGlucose_67 : decode bM_splitDextrinsToGlucose 67 = .ok (.aload_n 0, 1) := by decide +kernel
theorem dM_splitDextrinsToGlucose_68 : decode bM_splitDextrinsToGlucose 68 = .ok (.getfield 9, 3) := by decide +kernel
theorem dM_splitDextrinsToGlucose_71 : decode bM_splitDextrinsToGlucose 71 = .ok (.iconst 0, 1) := by decide +kernel
theorem dM_splitDextrinsToGlucose_72 : decode bM_splitDextrinsToGlucose 72 = .ok (.daload, 1) := by decide +kernel
theorem dM_splitDextrinsToGlucose_73 : decode bM_splitDextrinsToGlucose 73 = .ok (.dload_n 1, 1) := by decide +kernel
theorem dM_splitDextrinsToGlucose_74 : decode bM_splitDextrinsToGlucose 74 = .ok (.ldc2_w 168, 3) := by decide +kernel
theorem dM_splitDextrinsToGlucose_77 : decode bM_splitDextrinsToGlucose 77 = .ok (.dmul, 1) := by decide +kernel
theorem dM_splitDextrinsToGlucose_78 : decode bM_splitDextrinsToGlucose 78 = .ok (.dsub, 1) := by decide +kernel
theorem dM_splitDextrinsToGlucose_79 : decode bM_splitDextrinsToGlucose 79 = .ok (.dastore, 1) := by decide +kernel
theorem dM_splitDextrinsToGlucose_80 : decode bM_splitDextrinsToGlucose 80 = .ok (.return_, 1) := by decide +kernel
theorem dM_splitProtein_0 : decode bM_splitProtein 0 = .ok (.aload_n 0, 1) := by decide +kernel
theorem dM_splitProtein_1 : decode bM_splitProtein 1 = .ok (.getfield 9, 3) := by decide +kernel
theorem dM_splitProtein_4 : decode bM_splitProtein 4 = .ok (.bipush 8, 2) := by decide +kernel
theorem dM_splitProtein_6 : decode bM_splitProtein 6 = .ok (.daload, 1) := by decide +kernel
theorem dM_splitProtein_7 : decode bM_splitProtein 7 = .ok (.aload_n 0, 1) := by decide +kernel
theorem dM_splitProtein_8 : decode bM_splitProtein 8 = .ok (.getfield 22, 3) := by decide +kernel
theorem dM_splitProtein_11 : decode bM_splitProtein 11 = .ok (.iconst 3, 1) := by decide +kernel
theorem dM_splitProtein_12 : decode bM_splitProtein 12 = .ok (.daload, 1) := by decide +kernel
theorem dM_splitProtein_13 : decode bM_splitProtein 13 = .ok (.dmul, 1) := by decide +kernel
theorem dM_splitProtein_14 : decode bM_splitProtein 14 = .ok (.dstore_n 1, 1) := by decide +kernel
theorem dM_splitProtein_15 : decode bM_splitProtein 15 = .ok (.aload_n 0, 1) := by decide +kernel
theorem dM_splitProtein_16 : decode bM_splitProtein 16 = .ok (.getfield 9, 3) := by decide +kernel
theorem dM_splitProtein_19 : decode bM_splitProtein 19 = .ok (.bipush 8, 2) := by decide +kernel
theorem dM_splitProtein_21 : decode bM_splitProtein 21 = .ok (.aload_n 0, 1) := by decide +kernel
theorem dM_splitProtein_22 : decode bM_splitProtein 22 = .ok (.getfield 9, 3) := by decide +kernel
theorem dM_splitProtein_25 : decode bM_splitProtein 25 = .ok (.bipush 8, 2) := by decide +kernel
theorem dM_splitProtein_27 : decode bM_splitProtein 27 = .ok (.daload, 1) := by decide +kernel
theorem dM_splitProtein_28 : decode bM_splitProtein 28 = .ok (.dload_n 1, 1) := by decide +kernel
theorem dM_splitProtein_29 : decode bM_splitProtein 29 = .ok (.dsub, 1) := by decide +kernel
theorem dM_splitProtein_30 : decode bM_splitProtein 30 = .ok (.dastore, 1) := by decide +kernel
theorem dM_splitProtein_31 : decode bM_splitProtein 31 = .ok (.aload_n 0, 1) := by decide +kernel
theorem dM_splitProtein_32 : decode bM_splitProtein 32 = .ok (.getfield 9, 3) := by decide +kernel
theorem dM_splitProtein_35 : decode bM_splitProtein 35 = .ok (.bipush 7, 2) := by decide +kernel
theorem dM_splitProtein_37 : decode bM_splitProtein 37 = .ok (.aload_n 0, 1) := by decide +kernel
theorem dM_splitProtein_38 : decode bM_splitProtein 38 = .ok (.getfield 9, 3) := by decide +kernel
theorem dM_splitProtein_41 : decode bM_splitProtein 41 = .ok (.bipush 7, 2) := by decide +kernel
theorem dM_splitProtein_43 : decode bM_splitProtein 43 = .ok (.daload, 1) := by decide +kernel
theorem dM_splitProtein_44 : decode bM_splitProtein 44 = .ok (.dload_n 1, 1) := by decide +kernel
theorem dM_splitProtein_45 : decode bM_splitProtein 45 = .ok (.dadd, 1) := by decide +kernel
theorem dM_splitProtein_46 : decode bM_splitProtein 46 = .ok (.dastore, 1) := by decide +kernel
theorem dM_splitProtein_47 : decode bM_splitProtein 47 = .ok (.return_, 1) := by decide +kernel
theorem dM_decayEnzymes_0 : decode bM_decayEnzymes 0 = .ok (.iconst 0, 1) := by decide +kernel
theorem dM_decayEnzymes_1 : decode bM_decayEnzymes 1 = .ok (.istore_n 1, 1) := by decide +kernel
theorem dM_decayEnzymes_2 : decode bM_decayEnzymes 2 = .ok (.iload_n 1, 1) := by decide +kernel
theorem dM_decayEnzymes_3 : decode bM_decayEnzymes 3 = .ok (.iconst 4, 1) := by decide +kernel
theorem dM_decayEnzymes_4 : decode bM_decayEnzymes 4 = .ok (.if_icmp .ge 40, 3) := by decide +kernel
theorem dM_decayEnzymes_7 : decode bM_decayEnzymes 7 = .ok (.aload_n 0, 1) := by decide +kernel
theorem dM_decayEnzymes_8 : decode bM_decayEnzymes 8 = .ok (.getfield 9, 3) := by decide +kernel
theorem dM_decayEnzymes_11 : decode bM_decayEnzymes 11 = .ok (.bipush 9, 2) := by decide +kernel
theorem dM_decayEnzymes_13 : decode bM_decayEnzymes 13 = .ok (.iload_n 1, 1) := by decide +kernel
theorem dM_decayEnzymes_14 : decode bM_decayEnzymes 14 = .ok (.iadd, 1) := by decide +kernel
theorem dM_decayEnzymes_15 : decode bM_decayEnzymes 15 = .ok (.daload, 1) := by decide +kernel
theorem dM_decayEnzymes_16 : decode bM_decayEnzymes 16 = .ok (.dstore_n 2, 1) := by decide +kernel
theorem dM_decayEnzymes_17 : decode bM_decayEnzymes 17 = .ok (.aload_n 0, 1) := by decide +kernel
theorem dM_decayEnzymes_18 : decode bM_decayEnzymes 18 = .ok (.getfield 9, 3) := by decide +kernel
theorem dM_decayEnzymes_21 : decode bM_decayEnzymes 21 = .ok (.bipush 9, 2) := by decide +kernel
theorem dM_decayEnzymes_23 : decode bM_decayEnzymes 23 = .ok (.iload_n 1, 1) := by decide +kernel
theorem dM_decayEnzymes_24 : decode bM_decayEnzymes 24 = .ok (.iadd, 1) := by decide +kernel
theorem dM_decayEnzymes_25 : decode bM_decayEnzymes 25 = .ok (.dload_n 2, 1) := by decide +kernel
theorem dM_decayEnzymes_26 : decode bM_decayEnzymes 26 = .ok (.dload_n 2, 1) := by decide +kernel
theorem dM_decayEnzymes_27 : decode bM_decayEnzymes 27 = .ok (.aload_n 0, 1) := by decide +kernel
theorem dM_decayEnzymes_28 : decode bM_decayEnzymes 28 = .ok (.getfield 35, 3) := by decide +kernel
theorem dM_decayEnzymes_31 : decode bM_decayEnzymes 31 = .ok (.iload_n 1, 1) := by decide +kernel
theorem dM_decayEnzymes_32 : decode bM_decayEnzymes 32 = .ok (.invokevirtual 170, 3) := by decide +kernel
theorem dM_decayEnzymes_35 : decode bM_decayEnzymes 35 = .ok (.dmul, 1) := by decide +kernel
theorem dM_decayEnzymes_36 : decode bM_decayEnzymes 36 = .ok (.dsub, 1) := by decide +kernel
theorem dM_decayEnzymes_37 : decode bM_decayEnzymes 37 = .ok (.dastore, 1) := by decide +kernel
theorem dM_decayEnzymes_38 : decode bM_decayEnzymes 38 = .ok (.iinc 1 1, 3) := by decide +kernel
theorem dM_decayEnzymes_41 : decode bM_decayEnzymes 41 = .ok (.goto (-39), 3) := by decide +kernel
theorem dM_decayEnzymes_44 : decode bM_decayEnzymes 44 = .ok (.return_, 1) := by decide +kernel
theorem dM_lesser_0 : decode bM_lesser 0 = .ok (.dload_n 2, 1) := by decide +kernel
theorem dM_lesser_1 : decode bM_lesser 1 = .ok (.dload_n 0, 1) := by decide +kernel
theorem dM_lesser_2 : decode bM_lesser 2 = .ok (.dcmp .g, 1) := by decide +kernel
theorem dM_lesser_3 : decode bM_lesser 3 = .ok (.ifCond .ge 7, 3) := by decide +kernel
theorem dM_lesser_6 : decode bM_lesser 6 = .ok (.dload_n 2, 1) := by decide +kernel
theorem dM_lesser_7 : decode bM_lesser 7 = .ok (.goto 4, 3) := by decide +kernel
theorem dM_lesser_10 : decode bM_lesser 10 = .ok (.dload_n 0, 1) := by decide +kernel
theorem dM_lesser_11 : decode bM_lesser 11 = .ok (.dreturn, 1) := by decide +kernel
theorem dN_init_0 : decode bN_init 0 = .ok (.aload_n 0, 1) := by decide +kernel
theorem dN_init_1 : decode bN_init 1 = .ok (.invokespecial 1, 3) := by decide +kernel
theorem dN_init_4 : decode bN_init 4 = .ok (.aload_n 0, 1) := by decide +kernel
theorem dN_init_5 : decode bN_init 5 = .ok (.bipush 13, 2) := by decide +kernel
theorem dN_init_7 : decode bN_init 7 = .ok (.newarray .double, 2) := by decide +kernel
theorem dN_init_9 : decode bN_init 9 = .ok (.putfield 9, 3) := by decide +kernel
theorem dN_init_12 : decode bN_init 12 = .ok (.aload_n 0, 1) := by decide +kernel
theorem dN_init_13 : decode bN_init 13 = .ok (.bipush 32, 2) := by decide +kernel
theorem dN_init_15 : decode bN_init 15 = .ok (.newarray .int, 2) := by decide +kernel
theorem dN_init_17 : decode bN_init 17 = .ok (.putfield 13, 3) := by decide +kernel
theorem dN_init_20 : decode bN_init 20 = .ok (.aload_n 0, 1) := by decide +kernel
theorem dN_init_21 : decode bN_init 21 = .ok (.bipush 32, 2) := by decide +kernel
theorem dN_init_23 : decode bN_init 23 = .ok (.newarray .double, 2) := by decide +kernel
theorem dN_init_25 : decode bN_init 25 = .ok (.putfield 17, 3) := by decide +kernel
theorem dN_init_28 : decode bN_init 28 = .ok (.aload_n 0, 1) := by decide +kernel
theorem dN_init_29 : decode bN_init 29 = .ok (.bipush 104, 2) := by decide +kernel
theorem dN_init_31 : decode bN_init 31 = .ok (.newarray .double, 2) := by decide +kernel
theorem dN_init_33 : decode bN_init 33 = .ok (.putfield 20, 3) := by decide +kernel
theorem dN_init_36 : decode bN_init 36 = .ok (.aload_n 0, 1) := by decide +kernel
theorem dN_init_37 : decode bN_init 37 = .ok (.bipush 8, 2) := by decide +kernel
theorem dN_init_39 : decode bN_init 39 = .ok (.newarray .boolean, 2) := by decide +kernel
theorem dN_init_41 : decode bN_init 41 = .ok (.putfield 23, 3) := by decide +kernel
theorem dN_init_44 : decode bN_init 44 = .ok (.aload_n 0, 1) := by decide +kernel
theorem dN_init_45 : decode bN_init 45 = .ok (.iconst 4, 1) := by decide +kernel
theorem dN_init_46 : decode bN_init 46 = .ok (.newarray .double, 2) := by decide +kernel
theorem dN_init_48 : decode bN_init 48 = .ok (.putfield 27, 3) := by decide +kernel
theorem dN_init_51 : decode bN_init 51 = .ok (.return_, 1) := by decide +kernel
theorem dN_grain_0 : decode bN_grain 0 = .ok (.dload_n 1, 1) := by decide +kernel
theorem dN_grain_1 : decode bN_grain 1 = .ok (.dconst 0, 1) := by decide +kernel
theorem dN_grain_2 : decode bN_grain 2 = .ok (.dcmp .l, 1) := by decide +kernel
theorem dN_grain_3 : decode bN_grain 3 = .ok (.ifCond .le 34, 3) := by decide +kernel
theorem dN_grain_6 : decode bN_grain 6 = .ok (.dload_n 1, 1) := by decide +kernel
theorem dN_grain_7 : decode bN_grain 7 = .ok (.ldc2_w 30, 3) := by decide +kernel
theorem dN_grain_10 : decode bN_grain 10 = .ok (.dcmp .l, 1) := by decide +kernel
theorem dN_grain_11 : decode bN_grain 11 = .ok (.ifCond .gt 26, 3) := by decide +kernel
theorem dN_grain_14 : decode bN_grain 14 = .ok (.dload_n 3, 1) := by decide +kernel
theorem dN_grain_15 : decode bN_grain 15 = .ok (.dconst 0, 1) := by decide +kernel
theorem dN_grain_16 : decode bN_grain 16 = .ok (.dcmp .l, 1) := by decide +kernel
end
section
theorem dN_grain_17 : decode bN_grain 17 = .ok (.ifCond .lt 20, 3) := by decide +kernel
theorem dN_grain_20 : decode bN_grain 20 = .ok (.dload_n 3, 1) := by decide +kernel
theorem dN_grain_21 : decode bN_grain 21 = .ok (.dconst 1, 1) := by decide +kernel
theorem dN_grain_22 : decode bN_grain 22 = .ok (.dcmp .l, 1) := by decide +kernel
theorem dN_grain_23 : decode bN_grain 23 = .ok (.ifCond .gt 14, 3) := by decide +kernel
theorem dN_grain_26 : decode bN_grain 26 = .ok (.iload 5, 2) := by decide +kernel
theorem dN_grain_28 : decode bN_grain 28 = .ok (.ifCond .lt 9, 3) := by decide +kernel
theorem dN_grain_31 : decode bN_grain 31 = .ok (.iload 5, 2) := by decide +kernel
theorem dN_grain_33 : decode bN_grain 33 = .ok (.iconst 2, 1) := by decide +kernel
theorem dN_grain_34 : decode bN_grain 34 = .ok (.if_icmp .le 5, 3) := by decide +kernel
theorem dN_grain_37 : decode bN_grain 37 = .ok (.iconst 0, 1) := by decide +kernel
theorem dN_grain_38 : decode bN_grain 38 = .ok (.ireturn, 1) := by decide +kernel
theorem dN_grain_39 : decode bN_grain 39 = .ok (.aload_n 0, 1) := by decide +kernel
theorem dN_grain_40 : decode bN_grain 40 = .ok (.getfield 9, 3) := by decide +kernel
theorem dN_grain_43 : decode bN_grain 43 = .ok (.iconst 1, 1) := by decide +kernel
theorem dN_grain_44 : decode bN_grain 44 = .ok (.aload_n 0, 1) := by decide +kernel
theorem dN_grain_45 : decode bN_grain 45 = .ok (.getfield 9, 3) := by decide +kernel
theorem dN_grain_48 : decode bN_grain 48 = .ok (.iconst 1, 1) := by decide +kernel
theorem dN_grain_49 : decode bN_grain 49 = .ok (.daload, 1) := by decide +kernel
theorem dN_grain_50 : decode bN_grain 50 = .ok (.dload_n 1, 1) := by decide +kernel
theorem dN_grain_51 : decode bN_grain 51 = .ok (.dload_n 3, 1) := by decide +kernel
theorem dN_grain_52 : decode bN_grain 52 = .ok (.dmul, 1) := by decide +kernel
theorem dN_grain_53 : decode bN_grain 53 = .ok (.dadd, 1) := by decide +kernel
theorem dN_grain_54 : decode bN_grain 54 = .ok (.dastore, 1) := by decide +kernel
theorem dN_grain_55 : decode bN_grain 55 = .ok (.aload_n 0, 1) := by decide +kernel
theorem dN_grain_56 : decode bN_grain 56 = .ok (.aload_n 0, 1) := by decide +kernel
theorem dN_grain_57 : decode bN_grain 57 = .ok (.getfield 32, 3) := by decide +kernel
theorem dN_grain_60 : decode bN_grain 60 = .ok (.dload_n 1, 1) := by decide +kernel
theorem dN_grain_61 : decode bN_grain 61 = .ok (.dload_n 3, 1) := by decide +kernel
theorem dN_grain_62 : decode bN_grain 62 = .ok (.dmul, 1) := by decide +kernel
theorem dN_grain_63 : decode bN_grain 63 = .ok (.dadd, 1) := by decide +kernel
theorem dN_grain_64 : decode bN_grain 64 = .ok (.putfield 32, 3) := by decide +kernel
theorem dN_grain_67 : decode bN_grain 67 = .ok (.aload_n 0, 1) := by decide +kernel
theorem dN_grain_68 : decode bN_grain 68 = .ok (.getfield 9, 3) := by decide +kernel
theorem dN_grain_71 : decode bN_grain 71 = .ok (.bipush 8, 2) := by decide +kernel
theorem dN_grain_73 : decode bN_grain 73 = .ok (.aload_n 0, 1) := by decide +kernel
theorem dN_grain_74 : decode bN_grain 74 = .ok (.getfield 9, 3) := by decide +kernel
theorem dN_grain_77 : decode bN_grain 77 = .ok (.bipush 8, 2) := by decide +kernel
theorem dN_grain_79 : decode bN_grain 79 = .ok (.daload, 1) := by decide +kernel
theorem dN_grain_80 : decode bN_grain 80 = .ok (.dload_n 1, 1) := by decide +kernel
theorem dN_grain_81 : decode bN_grain 81 = .ok (.iload 5, 2) := by decide +kernel
theorem dN_grain_83 : decode bN_grain 83 = .ok (.ifCond .ne 9, 3) := by decide +kernel
theorem dN_grain_86 : decode bN_grain 86 = .ok (.ldc2_w 36, 3) := by decide +kernel
theorem dN_grain_89 : decode bN_grain 89 = .ok (.goto 18, 3) := by decide +kernel
theorem dN_grain_92 : decode bN_grain 92 = .ok (.iload 5, 2) := by decide +kernel
theorem dN_grain_94 : decode bN_grain 94 = .ok (.iconst 1, 1) := by decide +kernel
theorem dN_grain_95 : decode bN_grain 95 = .ok (.if_icmp .ne 9, 3) := by decide +kernel
theorem dN_grain_98 : decode bN_grain 98 = .ok (.ldc2_w 38, 3) := by decide +kernel
theorem dN_grain_101 : decode bN_grain 101 = .ok (.goto 6, 3) := by decide +kernel
theorem dN_grain_104 : decode bN_grain 104 = .ok (.ldc2_w 40, 3) := by decide +kernel
theorem dN_grain_107 : decode bN_grain 107 = .ok (.dmul, 1) := by decide +kernel
theorem dN_grain_108 : decode bN_grain 108 = .ok (.dadd, 1) := by decide +kernel
theorem dN_grain_109 : decode bN_grain 109 = .ok (.dastore, 1) := by decide +kernel
theorem dN_grain_110 : decode bN_grain 110 = .ok (.iload 5, 2) := by decide +kernel
theorem dN_grain_112 : decode bN_grain 112 = .ok (.ifCond .ne 84, 3) := by decide +kernel
theorem dN_grain_115 : decode bN_grain 115 = .ok (.aload_n 0, 1) := by decide +kernel
theorem dN_grain_116 : decode bN_grain 116 = .ok (.getfield 9, 3) := by decide +kernel
theorem dN_grain_119 : decode bN_grain 119 = .ok (.bipush 9, 2) := by decide +kernel
theorem dN_grain_121 : decode bN_grain 121 = .ok (.aload_n 0, 1) := by decide +kernel
theorem dN_grain_122 : decode bN_grain 122 = .ok (.getfield 9, 3) := by decide +kernel
theorem dN_grain_125 : decode bN_grain 125 = .ok (.bipush 9, 2) := by decide +kernel
theorem dN_grain_127 : decode bN_grain 127 = .ok (.daload, 1) := by decide +kernel
theorem dN_grain_128 : decode bN_grain 128 = .ok (.dload_n 1, 1) := by decide +kernel
theorem dN_grain_129 : decode bN_grain 129 = .ok (.dconst 1, 1) := by decide +kernel
theorem dN_grain_130 : decode bN_grain 130 = .ok (.dmul, 1) := by decide +kernel
theorem dN_grain_131 : decode bN_grain 131 = .ok (.dadd, 1) := by decide +kernel
theorem dN_grain_132 : decode bN_grain 132 = .ok (.dastore, 1) := by decide +kernel
theorem dN_grain_133 : decode bN_grain 133 = .ok (.aload_n 0, 1) := by decide +kernel
theorem dN_grain_134 : decode bN_grain 134 = .ok (.getfield 9, 3) := by decide +kernel
theorem dN_grain_137 : decode bN_grain 137 = .ok (.bipush 10, 2) := by decide +kernel
theorem dN_grain_139 : decode bN_grain 139 = .ok (.aload_n 0, 1) := by decide +kernel
theorem dN_grain_140 : decode bN_grain 140 = .ok (.getfield 9, 3) := by decide +kernel
theorem dN_grain_143 : decode bN_grain 143 = .ok (.bipush 10, 2) := by decide +kernel
theorem dN_grain_145 : decode bN_grain 145 = .ok (.daload, 1) := by decide +kernel
theorem dN_grain_146 : decode bN_grain 146 = .ok (.dload_n 1, 1) := by decide +kernel
theorem dN_grain_147 : decode bN_grain 147 = .ok (.ldc2_w 42, 3) := by decide +kernel
theorem dN_grain_150 : decode bN_grain 150 = .ok (.dmul, 1) := by decide +kernel
theorem dN_grain_151 : decode bN_grain 151 = .ok (.dadd, 1) := by decide +kernel
theorem dN_grain_152 : decode bN_grain 152 = .ok (.dastore, 1) := by decide +kernel
theorem dN_grain_153 : decode bN_grain 153 = .ok (.aload_n 0, 1) := by decide +kernel
theorem dN_grain_154 : decode bN_grain 154 = .ok (.getfield 9, 3) := by decide +kernel
theorem dN_grain_157 : decode bN_grain 157 = .ok (.bipush 11, 2) := by decide +kernel
theorem dN_grain_159 : decode bN_grain 159 = .ok (.aload_n 0, 1) := by decide +kernel
theorem dN_grain_160 : decode bN_grain 160 = .ok (.getfield 9, 3) := by decide +kernel
theorem dN_grain_163 : decode bN_grain 163 = .ok (.bipush 11, 2) := by decide +kernel
theorem dN_grain_165 : decode bN_grain 165 = .ok (.daload, 1) := by decide +kernel
theorem dN_grain_166 : decode bN_grain 166 = .ok (.dload_n 1, 1) := by decide +kernel
theorem dN_grain_167 : decode bN_grain 167 = .ok (.ldc2_w 44, 3) := by decide +kernel
theorem dN_grain_170 : decode bN_grain 170 = .ok (.dmul, 1) := by decide +kernel
theorem dN_grain_171 : decode bN_grain 171 = .ok (.dadd, 1) := by decide +kernel
theorem dN_grain_172 : decode bN_grain 172 = .ok (.dastore, 1) := by decide +kernel
theorem dN_grain_173 : decode bN_grain 173 = .ok (.aload_n 0, 1) := by decide +kernel
theorem dN_grain_174 : decode bN_grain 174 = .ok (.getfield 9, 3) := by decide +kernel
theorem dN_grain_177 : decode bN_grain 177 = .ok (.bipush 12, 2) := by decide +kernel
theorem dN_grain_179 : decode bN_grain 179 = .ok (.aload_n 0, 1) := by decide +kernel
theorem dN_grain_180 : decode bN_grain 180 = .ok (.getfield 9, 3) := by decide +kernel
theorem dN_grain_183 : decode bN_grain 183 = .ok (.bipush 12, 2) := by decide +kernel
theorem dN_grain_185 : decode bN_grain 185 = .ok (.daload, 1) := by decide +kernel
theorem dN_grain_186 : decode bN_grain 186 = .ok (.dload_n 1, 1) := by decide +kernel
theorem dN_grain_187 : decode bN_grain 187 = .ok (.ldc2_w 46, 3) := by decide +kernel
theorem dN_grain_190 : decode bN_grain 190 = .ok (.dmul, 1) := by decide +kernel
theorem dN_grain_191 : decode bN_grain 191 = .ok (.dadd, 1) := by decide +kernel
theorem dN_grain_192 : decode bN_grain 192 = .ok (.dastore, 1) := by decide +kernel
theorem dN_grain_193 : decode bN_grain 193 = .ok (.goto 89, 3) := by decide +kernel
theorem dN_grain_196 : decode bN_grain 196 = .ok (.iload 5, 2) := by decide +kernel
theorem dN_grain_198 : decode bN_grain 198 = .ok (.iconst 2, 1) := by decide +kernel
theorem dN_grain_199 : decode bN_grain 199 = .ok (.if_icmp .ne 83, 3) := by decide +kernel
theorem dN_grain_202 : decode bN_grain 202 = .ok (.aload_n 0, 1) := by decide +kernel
theorem dN_grain_203 : decode bN_grain 203 = .ok (.getfield 9, 3) := by decide +kernel
theorem dN_grain_206 : decode bN_grain 206 = .ok (.bipush 9, 2) := by decide +kernel
theorem dN_grain_208 : decode bN_grain 208 = .ok (.aload_n 0, 1) := by decide +kernel
theorem dN_grain_209 : decode bN_grain 209 = .ok (.getfield 9, 3) := by decide +kernel
theorem dN_grain_212 : decode bN_grain 212 = .ok (.bipush 9, 2) := by decide +kernel
theorem dN_grain_214 : decode bN_grain 214 = .ok (.daload, 1) := by decide +kernel
theorem dN_grain_215 : decode bN_grain 215 = .ok (.dload_n 1, 1) := by decide +kernel
theorem dN_grain_216 : decode bN_grain 216 = .ok (.ldc2_w 46, 3) := by decide +kernel
theorem dN_grain_219 : decode bN_grain 219 = .ok (.dmul, 1) := by decide +kernel
theorem dN_grain_220 : decode bN_grain 220 = .ok (.dadd, 1) := by decide +kernel
theorem dN_grain_221 : decode bN_grain 221 = .ok (.dastore, 1) := by decide +kernel
theorem dN_grain_222 : decode bN_grain 222 = .ok (.aload_n 0, 1) := by decide +kernel
theorem dN_grain_223 : decode bN_grain 223 = .ok (.getfield 9, 3) := by decide +kernel
theorem dN_grain_226 : decode bN_grain 226 = .ok (.bipush 10, 2) := by decide +kernel
theorem dN_grain_228 : decode bN_grain 228 = .ok (.aload_n 0, 1) := by decide +kernel
theorem dN_grain_229 : decode bN_grain 229 = .ok (.getfield 9, 3) := by decide +kernel
theorem dN_grain_232 : decode bN_grain 232 = .ok (.bipush 10, 2) := by decide +kernel
theorem dN_grain_234 : decode bN_grain 234 = .ok (.daload, 1) := by decide +kernel
theorem dN_grain_235 : decode bN_grain 235 = .ok (.dload_n 1, 1) := by decide +kernel
theorem dN_grain_236 : decode bN_grain 236 = .ok (.ldc2_w 48, 3) := by decide +kernel
theorem dN_grain_239 : decode bN_grain 239 = .ok (.dmul, 1) := by decide +kernel
theorem dN_grain_240 : decode bN_grain 240 = .ok (.dadd, 1) := by decide +kernel
theorem dN_grain_241 : decode bN_grain 241 = .ok (.dastore, 1) := by decide +kernel
theorem dN_grain_242 : decode bN_grain 242 = .ok (.aload_n 0, 1) := by decide +kernel
theorem dN_grain_243 : decode bN_grain 243 = .ok (.getfield 9, 3) := by decide +kernel
theorem dN_grain_246 : decode bN_grain 246 = .ok (.bipush 11, 2) := by decide +kernel
theorem dN_grain_248 : decode bN_grain 248 = .ok (.aload_n 0, 1) := by decide +kernel
theorem dN_grain_249 : decode bN_grain 249 = .ok (.getfield 9, 3) := by decide +kernel
theorem dN_grain_252 : decode bN_grain 252 = .ok (.bipush 11, 2) := by decide +kernel
theorem dN_grain_254 : decode bN_grain 254 = .ok (.daload, 1) := by decide +kernel
theorem dN_grain_255 : decode bN_grain 255 = .ok (.dload_n 1, 1) := by decide +kernel
theorem dN_grain_256 : decode bN_grain 256 = .ok (.ldc2_w 36, 3) := by decide +kernel
theorem dN_grain_259 : decode bN_grain 259 = .ok (.dmul, 1) := by decide +kernel
theorem dN_grain_260 : decode bN_grain 260 = .ok (.dadd, 1) := by decide +kernel
theorem dN_grain_261 : decode bN_grain 261 = .ok (.dastore, 1) := by decide +kernel
theorem dN_grain_262 : decode bN_grain 262 = .ok (.aload_n 0, 1) := by decide +kernel
theorem dN_grain_263 : decode bN_grain 263 = .ok (.getfield 9, 3) := by decide +kernel
theorem dN_grain_266 : decode bN_grain 266 = .ok (.bipush 12, 2) := by decide +kernel
theorem dN_grain_268 : decode bN_grain 268 = .ok (.aload_n 0, 1) := by decide +kernel
theorem dN_grain_269 : decode bN_grain 269 = .ok (.getfield 9, 3) := by decide +kernel
theorem dN_grain_272 : decode bN_grain 272 = .ok (.bipush 12, 2) := by decide +kernel
theorem dN_grain_274 : decode bN_grain 274 = .ok (.daload, 1) := by decide +kernel
theorem dN_grain_275 : decode bN_grain 275 = .ok (.dload_n 1, 1) := by decide +kernel
theorem dN_grain_276 : decode bN_grain 276 = .ok (.ldc2_w 44, 3) := by decide +kernel
theorem dN_grain_279 : decode bN_grain 279 = .ok (.dmul, 1) := by decide +kernel
theorem dN_grain_280 : decode bN_grain 280 = .ok (.dadd, 1) := by decide +kernel
theorem dN_grain_281 : decode bN_grain 281 = .ok (.dastore, 1) := by decide +kernel
theorem dN_grain_282 : decode bN_grain 282 = .ok (.aload_n 0, 1) := by decide +kernel
theorem dN_grain_283 : decode bN_grain 283 = .ok (.iconst 1, 1) := by decide +kernel
theorem dN_grain_284 : decode bN_grain 284 = .ok (.putfield 50, 3) := by decide +kernel
theorem dN_grain_287 : decode bN_grain 287 = .ok (.iconst 1, 1) := by decide +kernel
theorem dN_grain_288 : decode bN_grain 288 = .ok (.ireturn, 1) := by decide +kernel
theorem dN_liquor_0 : decode bN_liquor 0 = .ok (.dload_n 1, 1) := by decide +kernel
theorem dN_liquor_1 : decode bN_liquor 1 = .ok (.dconst 0, 1) := by decide +kernel
theorem dN_liquor_2 : decode bN_liquor 2 = .ok (.dcmp .l, 1) := by decide +kernel
theorem dN_liquor_3 : decode bN_liquor 3 = .ok (.ifCond .le 43, 3) := by decide +kernel
theorem dN_liquor_6 : decode bN_liquor 6 = .ok (.dload_n 1, 1) := by decide +kernel
theorem dN_liquor_7 : decode bN_liquor 7 = .ok (.ldc2_w 54, 3) := by decide +kernel
theorem dN_liquor_10 : decode bN_liquor 10 = .ok (.dcmp .l, 1) := by decide +kernel
theorem dN_liquor_11 : decode bN_liquor 11 = .ok (.ifCond .gt 35, 3) := by decide +kernel
theorem dN_liquor_14 : decode bN_liquor 14 = .ok (.dload_n 3, 1) := by decide +kernel
theorem dN_liquor_15 : decode bN_liquor 15 = .ok (.dconst 0, 1) := by decide +kernel
theorem dN_liquor_16 : decode bN_liquor 16 = .ok (.dcmp .l, 1) := by decide +kernel
theorem dN_liquor_17 : decode bN_liquor 17 = .ok (.ifCond .lt 29, 3) := by decide +kernel
theorem dN_liquor_20 : decode bN_liquor 20 = .ok (.dload_n 3, 1) := by decide +kernel
theorem dN_liquor_21 : decode bN_liquor 21 = .ok (.ldc2_w 56, 3) := by decide +kernel
theorem dN_liquor_24 : decode bN_liquor 24 = .ok (.dcmp .l, 1) := by decide +kernel
theorem dN_liquor_25 : decode bN_liquor 25 = .ok (.ifCond .gt 21, 3) := by decide +kernel
theorem dN_liquor_28 : decode bN_liquor 28 = .ok (.dload 5, 2) := by decide +kernel
theorem dN_liquor_30 : decode bN_liquor 30 = .ok (.ldc2_w 58, 3) := by decide +kernel
theorem dN_liquor_33 : decode bN_liquor 33 = .ok (.dcmp .l, 1) := by decide +kernel
theorem dN_liquor_34 : decode bN_liquor 34 = .ok (.ifCond .lt 12, 3) := by decide +kernel
theorem dN_liquor_37 : decode bN_liquor 37 = .ok (.dload 5, 2) := by decide +kernel
theorem dN_liquor_39 : decode bN_liquor 39 = .ok (.ldc2_w 60, 3) := by decide +kernel
theorem dN_liquor_42 : decode bN_liquor 42 = .ok (.dcmp .l, 1) := by decide +kernel
theorem dN_liquor_43 : decode bN_liquor 43 = .ok (.ifCond .le 5, 3) := by decide +kernel
theorem dN_liquor_46 : decode bN_liquor 46 = .ok (.iconst 0, 1) := by decide +kernel
theorem dN_liquor_47 : decode bN_liquor 47 = .ok (.ireturn, 1) := by decide +kernel
theorem dN_liquor_48 : decode bN_liquor 48 = .ok (.aload_n 0, 1) := by decide +kernel
theorem dN_liquor_49 : decode bN_liquor 49 = .ok (.aload_n 0, 1) := by decide +kernel
theorem dN_liquor_50 : decode bN_liquor 50 = .ok (.getfield 62, 3) := by decide +kernel
theorem dN_liquor_53 : decode bN_liquor 53 = .ok (.aload_n 0, 1) := by decide +kernel
theorem dN_liquor_54 : decode bN_liquor 54 = .ok (.getfield 9, 3) := by decide +kernel
theorem dN_liquor_57 : decode bN_liquor 57 = .ok (.iconst 0, 1) := by decide +kernel
theorem dN_liquor_58 : decode bN_liquor 58 = .ok (.daload, 1) := by decide +kernel
theorem dN_liquor_59 : decode bN_liquor 59 = .ok (.dmul, 1) := by decide +kernel
theorem dN_liquor_60 : decode bN_liquor 60 = .ok (.dload_n 3, 1) := by decide +kernel
theorem dN_liquor_61 : decode bN_liquor 61 = .ok (.dload_n 1, 1) := by decide +kernel
theorem dN_liquor_62 : decode bN_liquor 62 = .ok (.dmul, 1) := by decide +kernel
theorem dN_liquor_63 : decode bN_liquor 63 = .ok (.dadd, 1) := by decide +kernel
theorem dN_liquor_64 : decode bN_liquor 64 = .ok (.aload_n 0, 1) := by decide +kernel
theorem dN_liquor_65 : decode bN_liquor 65 = .ok (.getfield 9, 3) := by decide +kernel
theorem dN_liquor_68 : decode bN_liquor 68 = .ok (.iconst 0, 1) := by decide +kernel
theorem dN_liquor_69 : decode bN_liquor 69 = .ok (.daload, 1) := by decide +kernel
theorem dN_liquor_70 : decode bN_liquor 70 = .ok (.dload_n 1, 1) := by decide +kernel
theorem dN_liquor_71 : decode bN_liquor 71 = .ok (.dadd, 1) := by decide +kernel
theorem dN_liquor_72 : decode bN_liquor 72 = .ok (.ddiv, 1) := by decide +kernel
theorem dN_liquor_73 : decode bN_liquor 73 = .ok (.putfield 62, 3) := by decide +kernel
theorem dN_liquor_76 : decode bN_liquor 76 = .ok (.aload_n 0, 1) := by decide +kernel
theorem dN_liquor_77 : decode bN_liquor 77 = .ok (.aload_n 0, 1) := by decide +kernel
theorem dN_liquor_78 : decode bN_liquor 78 = .ok (.getfield 65, 3) := by decide +kernel
theorem dN_liquor_81 : decode bN_liquor 81 = .ok (.aload_n 0, 1) := by decide +kernel
theorem dN_liquor_82 : decode bN_liquor 82 = .ok (.getfield 9, 3) := by decide +kernel
theorem dN_liquor_85 : decode bN_liquor 85 = .ok (.iconst 0, 1) := by decide +kernel
theorem dN_liquor_86 : decode bN_liquor 86 = .ok (.daload, 1) := by decide +kernel
theorem dN_liquor_87 : decode bN_liquor 87 = .ok (.dmul, 1) := by decide +kernel
theorem dN_liquor_88 : decode bN_liquor 88 = .ok (.dload 5, 2) := by decide +kernel
theorem dN_liquor_90 : decode bN_liquor 90 = .ok (.dload_n 1, 1) := by decide +kernel
theorem dN_liquor_91 : decode bN_liquor 91 = .ok (.dmul, 1) := by decide +kernel
theorem dN_liquor_92 : decode bN_liquor 92 = .ok (.dadd, 1) := by decide +kernel
theorem dN_liquor_93 : decode bN_liquor 93 = .ok (.aload_n 0, 1) := by decide +kernel
theorem dN_liquor_94 : decode bN_liquor 94 = .ok (.getfield 9, 3) := by decide +kernel
theorem dN_liquor_97 : decode bN_liquor 97 = .ok (.iconst 0, 1) := by decide +kernel
theorem dN_liquor_98 : decode bN_liquor 98 = .ok (.daload, 1) := by decide +kernel
theorem dN_liquor_99 : decode bN_liquor 99 = .ok (.dload_n 1, 1) := by decide +kernel
theorem dN_liquor_100 : decode bN_liquor 100 = .ok (.dadd, 1) := by decide +kernel
theorem dN_liquor_101 : decode bN_liquor 101 = .ok (.ddiv, 1) := by decide +kernel
theorem dN_liquor_102 : decode bN_liquor 102 = .ok (.putfield 65, 3) := by decide +kernel
theorem dN_liquor_105 : decode bN_liquor 105 = .ok (.aload_n 0, 1) := by decide +kernel
theorem dN_liquor_106 : decode bN_liquor 106 = .ok (.getfield 9, 3) := by decide +kernel
theorem dN_liquor_109 : decode bN_liquor 109 = .ok (.iconst 0, 1) := by decide +kernel
theorem dN_liquor_110 : decode bN_liquor 110 = .ok (.aload_n 0, 1) := by decide +kernel
theorem dN_liquor_111 : decode bN_liquor 111 = .ok (.getfield 9, 3) := by decide +kernel
theorem dN_liquor_114 : decode bN_liquor 114 = .ok (.iconst 0, 1) := by decide +kernel
theorem dN_liquor_115 : decode bN_liquor 115 = .ok (.daload, 1) := by decide +kernel
theorem dN_liquor_116 : decode bN_liquor 116 = .ok (.dload_n 1, 1) := by decide +kernel
theorem dN_liquor_117 : decode bN_liquor 117 = .ok (.dadd, 1) := by decide +kernel
theorem dN_liquor_118 : decode bN_liquor 118 = .ok (.dastore, 1) := by decide +kernel
theorem dN_liquor_119 : decode bN_liquor 119 = .ok (.aload_n 0, 1) := by decide +kernel
theorem dN_liquor_120 : decode bN_liquor 120 = .ok (.iconst 1, 1) := by decide +kernel
theorem dN_liquor_121 : decode bN_liquor 121 = .ok (.putfield 68, 3) := by decide +kernel
theorem dN_liquor_124 : decode bN_liquor 124 = .ok (.iconst 1, 1) := by decide +kernel
theorem dN_liquor_125 : decode bN_liquor 125 = .ok (.ireturn, 1) := by decide +kernel
theorem dN_enzyme_0 : decode bN_enzyme 0 = .ok (.iload_n 1, 1) := by decide +kernel
theorem dN_enzyme_1 : decode bN_enzyme 1 = .ok (.ifCond .lt 22, 3) := by decide +kernel
theorem dN_enzyme_4 : decode bN_enzyme 4 = .ok (.iload_n 1, 1) := by decide +kernel
theorem dN_enzyme_5 : decode bN_enzyme 5 = .ok (.iconst 3, 1) := by decide +kernel
theorem dN_enzyme_6 : decode bN_enzyme 6 = .ok (.if_icmp .gt 17, 3) := by decide +kernel
theorem dN_enzyme_9 : decode bN_enzyme 9 = .ok (.dload_n 2, 1) := by decide +kernel
theorem dN_enzyme_10 : decode bN_enzyme 10 = .ok (.dconst 0, 1) := by decide +kernel
theorem dN_enzyme_11 : decode bN_enzyme 11 = .ok (.dcmp .l, 1) := by decide +kernel
theorem dN_enzyme_12 : decode bN_enzyme 12 = .ok (.ifCond .le 11, 3) := by decide +kernel
theorem dN_enzyme_15 : decode bN_enzyme 15 = .ok (.dload_n 2, 1) := by decide +kernel
theorem dN_enzyme_16 : decode bN_enzyme 16 = .ok (.ldc2_w 30, 3) := by decide +kernel
theorem dN_enzyme_19 : decode bN_enzyme 19 = .ok (.dcmp .l, 1) := by decide +kernel
theorem dN_enzyme_20 : decode bN_enzyme 20 = .ok (.ifCond .le 5, 3) := by decide +kernel
theorem dN_enzyme_23 : decode bN_enzyme 23 = .ok (.iconst 0, 1) := by decide +kernel
theorem dN_enzyme_24 : decode bN_enzyme 24 = .ok (.ireturn, 1) := by decide +kernel
theorem dN_enzyme_25 : decode bN_enzyme 25 = .ok (.aload_n 0, 1) := by decide +kernel
theorem dN_enzyme_26 : decode bN_enzyme 26 = .ok (.getfield 9, 3) := by decide +kernel
theorem dN_enzyme_29 : decode bN_enzyme 29 = .ok (.bipush 9, 2) := by decide +kernel
theorem dN_enzyme_31 : decode bN_enzyme 31 = .ok (.iload_n 1, 1) := by decide +kernel
theorem dN_enzyme_32 : decode bN_enzyme 32 = .ok (.iadd, 1) := by decide +kernel
theorem dN_enzyme_33 : decode bN_enzyme 33 = .ok (.aload_n 0, 1) := by decide +kernel
theorem dN_enzyme_34 : decode bN_enzyme 34 = .ok (.getfield 9, 3) := by decide +kernel
theorem dN_enzyme_37 : decode bN_enzyme 37 = .ok (.bipush 9, 2) := by decide +kernel
theorem dN_enzyme_39 : decode bN_enzyme 39 = .ok (.iload_n 1, 1) := by decide +kernel
theorem dN_enzyme_40 : decode bN_enzyme 40 = .ok (.iadd, 1) := by decide +kernel
theorem dN_enzyme_41 : decode bN_enzyme 41 = .ok (.daload, 1) := by decide +kernel
theorem dN_enzyme_42 : decode bN_enzyme 42 = .ok (.dload_n 2, 1) := by decide +kernel
theorem dN_enzyme_43 : decode bN_enzyme 43 = .ok (.dadd, 1) := by decide +kernel
theorem dN_enzyme_44 : decode bN_enzyme 44 = .ok (.dastore, 1) := by decide +kernel
theorem dN_enzyme_45 : decode bN_enzyme 45 = .ok (.iconst 1, 1) := by decide +kernel
theorem dN_enzyme_46 : decode bN_enzyme 46 = .ok (.ireturn, 1) := by decide +kernel
theorem dN_step_0 : decode bN_step 0 = .ok (.iload_n 1, 1) := by decide +kernel
theorem dN_step_1 : decode bN_step 1 = .ok (.aload_n 0, 1) := by decide +kernel
theorem dN_step_2 : decode bN_step 2 = .ok (.getfield 71, 3) := by decide +kernel
theorem dN_step_5 : decode bN_step 5 = .ok (.if_icmp .le 29, 3) := by decide +kernel
theorem dN_step_8 : decode bN_step 8 = .ok (.aload_n 0, 1) := by decide +kernel
theorem dN_step_9 : decode bN_step 9 = .ok (.getfield 75, 3) := by decide +kernel
theorem dN_step_12 : decode bN_step 12 = .ok (.ifCond .eq 18, 3) := by decide +kernel
theorem dN_step_15 : decode bN_step 15 = .ok (.iload_n 1, 1) := by decide +kernel
theorem dN_step_16 : decode bN_step 16 = .ok (.aload_n 0, 1) := by decide +kernel
theorem dN_step_17 : decode bN_step 17 = .ok (.getfield 13, 3) := by decide +kernel
theorem dN_step_20 : decode bN_step 20 = .ok (.aload_n 0, 1) := by decide +kernel
theorem dN_step_21 : decode bN_step 21 = .ok (.getfield 75, 3) := by decide +kernel
theorem dN_step_24 : decode bN_step 24 = .ok (.iconst 1, 1) := by decide +kernel
theorem dN_step_25 : decode bN_step 25 = .ok (.isub, 1) := by decide +kernel
theorem dN_step_26 : decode bN_step 26 = .ok (.iaload, 1) := by decide +kernel
theorem dN_step_27 : decode bN_step 27 = .ok (.if_icmp .le 7, 3) := by decide +kernel
theorem dN_step_30 : decode bN_step 30 = .ok (.iconst 1, 1) := by decide +kernel
theorem dN_step_31 : decode bN_step 31 = .ok (.goto 4, 3) := by decide +kernel
theorem dN_step_34 : decode bN_step 34 = .ok (.iconst 0, 1) := by decide +kernel
theorem dN_step_35 : decode bN_step 35 = .ok (.istore 4, 2) := by decide +kernel
theorem dN_step_37 : decode bN_step 37 = .ok (.iload 4, 2) := by decide +kernel
theorem dN_step_39 : decode bN_step 39 = .ok (.ifCond .eq 32, 3) := by decide +kernel
theorem dN_step_42 : decode bN_step 42 = .ok (.iload_n 1, 1) := by decide +kernel
theorem dN_step_43 : decode bN_step 43 = .ok (.ldc 78, 2) := by decide +kernel
theorem dN_step_45 : decode bN_step 45 = .ok (.if_icmp .gt 26, 3) := by decide +kernel
theorem dN_step_48 : decode bN_step 48 = .ok (.dload_n 2, 1) := by decide +kernel
theorem dN_step_49 : decode bN_step 49 = .ok (.dconst 0, 1) := by decide +kernel
theorem dN_step_50 : decode bN_step 50 = .ok (.dcmp .l, 1) := by decide +kernel
theorem dN_step_51 : decode bN_step 51 = .ok (.ifCond .lt 20, 3) := by decide +kernel
theorem dN_step_54 : decode bN_step 54 = .ok (.dload_n 2, 1) := by decide +kernel
theorem dN_step_55 : decode bN_step 55 = .ok (.ldc2_w 56, 3) := by decide +kernel
theorem dN_step_58 : decode bN_step 58 = .ok (.dcmp .l, 1) := by decide +kernel
theorem dN_step_59 : decode bN_step 59 = .ok (.ifCond .gt 12, 3) := by decide +kernel
theorem dN_step_62 : decode bN_step 62 = .ok (.aload_n 0, 1) := by decide +kernel
theorem dN_step_63 : decode bN_step 63 = .ok (.getfield 75, 3) := by decide +kernel
theorem dN_step_66 : decode bN_step 66 = .ok (.bipush 32, 2) := by decide +kernel
theorem dN_step_68 : decode bN_step 68 = .ok (.if_icmp .ne 5, 3) := by decide +kernel
theorem dN_step_71 : decode bN_step 71 = .ok (.iconst 0, 1) := by decide +kernel
theorem dN_step_72 : decode bN_step 72 = .ok (.ireturn, 1) := by decide +kernel
theorem dN_step_73 : decode bN_step 73 = .ok (.aload_n 0, 1) := by decide +kernel
theorem dN_step_74 : decode bN_step 74 = .ok (.getfield 13, 3) := by decide +kernel
theorem dN_step_77 : decode bN_step 77 = .ok (.aload_n 0, 1) := by decide +kernel
theorem dN_step_78 : decode bN_step 78 = .ok (.getfield 75, 3) := by decide +kernel
theorem dN_step_81 : decode bN_step 81 = .ok (.iload_n 1, 1) := by decide +kernel
theorem dN_step_82 : decode bN_step 82 = .ok (.iastore, 1) := by decide +kernel
theorem dN_step_83 : decode bN_step 83 = .ok (.aload_n 0, 1) := by decide +kernel
theorem dN_step_84 : decode bN_step 84 = .ok (.getfield 17, 3) := by decide +kernel
theorem dN_step_87 : decode bN_step 87 = .ok (.aload_n 0, 1) := by decide +kernel
theorem dN_step_88 : decode bN_step 88 = .ok (.getfield 75, 3) := by decide +kernel
theorem dN_step_91 : decode bN_step 91 = .ok (.dload_n 2, 1) := by decide +kernel
theorem dN_step_92 : decode bN_step 92 = .ok (.dastore, 1) := by decide +kernel
theorem dN_step_93 : decode bN_step 93 = .ok (.aload_n 0, 1) := by decide +kernel
theorem dN_step_94 : decode bN_step 94 = .ok (.dup, 1) := by decide +kernel
theorem dN_step_95 : decode bN_step 95 = .ok (.getfield 75, 3) := by decide +kernel
theorem dN_step_98 : decode bN_step 98 = .ok (.iconst 1, 1) := by decide +kernel
theorem dN_step_99 : decode bN_step 99 = .ok (.iadd, 1) := by decide +kernel
theorem dN_step_100 : decode bN_step 100 = .ok (.putfield 75, 3) := by decide +kernel
theorem dN_step_103 : decode bN_step 103 = .ok (.iconst 1, 1) := by decide +kernel
theorem dN_step_104 : decode bN_step 104 = .ok (.ireturn, 1) := by decide +kernel
theorem dN_row_0 : decode bN_row 0 = .ok (.iload_n 1, 1) := by decide +kernel
theorem dN_row_1 : decode bN_row 1 = .ok (.iconst 4, 1) := by decide +kernel
theorem dN_row_2 : decode bN_row 2 = .ok (.if_icmp .ge 9, 3) := by decide +kernel
theorem dN_row_5 : decode bN_row 5 = .ok (.ldc2_w 60, 3) := by decide +kernel
theorem dN_row_8 : decode bN_row 8 = .ok (.goto 6, 3) := by decide +kernel
theorem dN_row_11 : decode bN_row 11 = .ok (.ldc2_w 79, 3) := by decide +kernel
theorem dN_row_14 : decode bN_row 14 = .ok (.dstore_n 2, 1) := by decide +kernel
theorem dN_row_15 : decode bN_row 15 = .ok (.aload_n 0, 1) := by decide +kernel
theorem dN_row_16 : decode bN_row 16 = .ok (.getfield 62, 3) := by decide +kernel
theorem dN_row_19 : decode bN_row 19 = .ok (.dconst 0, 1) := by decide +kernel
theorem dN_row_20 : decode bN_row 20 = .ok (.dcmp .g, 1) := by decide +kernel
theorem dN_row_21 : decode bN_row 21 = .ok (.ifCond .ge 15, 3) := by decide +kernel
theorem dN_row_24 : decode bN_row 24 = .ok (.getstatic 81, 3) := by decide +kernel
theorem dN_row_27 : decode bN_row 27 = .ok (.bipush 9, 2) := by decide +kernel
theorem dN_row_29 : decode bN_row 29 = .ok (.iload_n 1, 1) := by decide +kernel
theorem dN_row_30 : decode bN_row 30 = .ok (.imul, 1) := by decide +kernel
theorem dN_row_31 : decode bN_row 31 = .ok (.iaload, 1) := by decide +kernel
theorem dN_row_32 : decode bN_row 32 = .ok (.i2d, 1) := by decide +kernel
theorem dN_row_33 : decode bN_row 33 = .ok (.dload_n 2, 1) := by decide +kernel
theorem dN_row_34 : decode bN_row 34 = .ok (.ddiv, 1) := by decide +kernel
theorem dN_row_35 : decode bN_row 35 = .ok (.dreturn, 1) := by decide +kernel
theorem dN_row_36 : decode bN_row 36 = .ok (.aload_n 0, 1) := by decide +kernel
theorem dN_row_37 : decode bN_row 37 = .ok (.getfield 62, 3) := by decide +kernel
theorem dN_row_40 : decode bN_row 40 = .ok (.ldc2_w 84, 3) := by decide +kernel
theorem dN_row_43 : decode bN_row 43 = .ok (.dcmp .l, 1) := by decide +kernel
theorem dN_row_44 : decode bN_row 44 = .ok (.ifCond .lt 18, 3) := by decide +kernel
theorem dN_row_47 : decode bN_row 47 = .ok (.getstatic 81, 3) := by decide +kernel
theorem dN_row_50 : decode bN_row 50 = .ok (.bipush 9, 2) := by decide +kernel
theorem dN_row_52 : decode bN_row 52 = .ok (.iload_n 1, 1) := by decide +kernel
theorem dN_row_53 : decode bN_row 53 = .ok (.imul, 1) := by decide +kernel
theorem dN_row_54 : decode bN_row 54 = .ok (.bipush 8, 2) := by decide +kernel
theorem dN_row_56 : decode bN_row 56 = .ok (.iadd, 1) := by decide +kernel
theorem dN_row_57 : decode bN_row 57 = .ok (.iaload, 1) := by decide +kernel
theorem dN_row_58 : decode bN_row 58 = .ok (.i2d, 1) := by decide +kernel
theorem dN_row_59 : decode bN_row 59 = .ok (.dload_n 2, 1) := by decide +kernel
theorem dN_row_60 : decode bN_row 60 = .ok (.ddiv, 1) := by decide +kernel
theorem dN_row_61 : decode bN_row 61 = .ok (.dreturn, 1) := by decide +kernel
theorem dN_row_62 : decode bN_row 62 = .ok (.iconst 0, 1) := by decide +kernel
theorem dN_row_63 : decode bN_row 63 = .ok (.istore 4, 2) := by decide +kernel
theorem dN_row_65 : decode bN_row 65 = .ok (.aload_n 0, 1) := by decide +kernel
theorem dN_row_66 : decode bN_row 66 = .ok (.getfield 62, 3) := by decide +kernel
theorem dN_row_69 : decode bN_row 69 = .ok (.getstatic 86, 3) := by decide +kernel
theorem dN_row_72 : decode bN_row 72 = .ok (.iload 4, 2) := by decide +kernel
theorem dN_row_74 : decode bN_row 74 = .ok (.iconst 1, 1) := by decide +kernel
theorem dN_row_75 : decode bN_row 75 = .ok (.iadd, 1) := by decide +kernel
theorem dN_row_76 : decode bN_row 76 = .ok (.iaload, 1) := by decide +kernel
theorem dN_row_77 : decode bN_row 77 = .ok (.i2d, 1) := by decide +kernel
theorem dN_row_78 : decode bN_row 78 = .ok (.dcmp .l, 1) := by decide +kernel
theorem dN_row_79 : decode bN_row 79 = .ok (.ifCond .lt 9, 3) := by decide +kernel
theorem dN_row_82 : decode bN_row 82 = .ok (.iinc 4 1, 3) := by decide +kernel
theorem dN_row_85 : decode bN_row 85 = .ok (.goto (-20), 3) := by decide +kernel
theorem dN_row_88 : decode bN_row 88 = .ok (.getstatic 81, 3) := by decide +kernel
theorem dN_row_91 : decode bN_row 91 = .ok (.bipush 9, 2) := by decide +kernel
theorem dN_row_93 : decode bN_row 93 = .ok (.iload_n 1, 1) := by decide +kernel
theorem dN_row_94 : decode bN_row 94 = .ok (.imul, 1) := by decide +kernel
theorem dN_row_95 : decode bN_row 95 = .ok (.iload 4, 2) := by decide +kernel
theorem dN_row_97 : decode bN_row 97 = .ok (.iadd, 1) := by decide +kernel
theorem dN_row_98 : decode bN_row 98 = .ok (.iaload, 1) := by decide +kernel
theorem dN_row_99 : decode bN_row 99 = .ok (.i2d, 1) := by decide +kernel
theorem dN_row_100 : decode bN_row 100 = .ok (.dload_n 2, 1) := by decide +kernel
theorem dN_row_101 : decode bN_row 101 = .ok (.ddiv, 1) := by decide +kernel
theorem dN_row_102 : decode bN_row 102 = .ok (.dstore 5, 2) := by decide +kernel
theorem dN_row_104 : decode bN_row 104 = .ok (.getstatic 81, 3) := by decide +kernel
theorem dN_row_107 : decode bN_row 107 = .ok (.bipush 9, 2) := by decide +kernel
theorem dN_row_109 : decode bN_row 109 = .ok (.iload_n 1, 1) := by decide +kernel
theorem dN_row_110 : decode bN_row 110 = .ok (.imul, 1) := by decide +kernel
theorem dN_row_111 : decode bN_row 111 = .ok (.iload 4, 2) := by decide +kernel
theorem dN_row_113 : decode bN_row 113 = .ok (.iadd, 1) := by decide +kernel
theorem dN_row_114 : decode bN_row 114 = .ok (.iconst 1, 1) := by decide +kernel
theorem dN_row_115 : decode bN_row 115 = .ok (.iadd, 1) := by decide +kernel
theorem dN_row_116 : decode bN_row 116 = .ok (.iaload, 1) := by decide +kernel
theorem dN_row_117 : decode bN_row 117 = .ok (.i2d, 1) := by decide +kernel
theorem dN_row_118 : decode bN_row 118 = .ok (.dload_n 2, 1) := by decide +kernel
theorem dN_row_119 : decode bN_row 119 = .ok (.ddiv, 1) := by decide +kernel
theorem dN_row_120 : decode bN_row 120 = .ok (.dstore 7, 2) := by decide +kernel
theorem dN_row_122 : decode bN_row 122 = .ok (.dload 5, 2) := by decide +kernel
theorem dN_row_124 : decode bN_row 124 = .ok (.dload 7, 2) := by decide +kernel
theorem dN_row_126 : decode bN_row 126 = .ok (.dload 5, 2) := by decide +kernel
theorem dN_row_128 : decode bN_row 128 = .ok (.dsub, 1) := by decide +kernel
theorem dN_row_129 : decode bN_row 129 = .ok (.aload_n 0, 1) := by decide +kernel
theorem dN_row_130 : decode bN_row 130 = .ok (.getfield 62, 3) := by decide +kernel
theorem dN_row_133 : decode bN_row 133 = .ok (.getstatic 86, 3) := by decide +kernel
theorem dN_row_136 : decode bN_row 136 = .ok (.iload 4, 2) := by decide +kernel
theorem dN_row_138 : decode bN_row 138 = .ok (.iaload, 1) := by decide +kernel
theorem dN_row_139 : decode bN_row 139 = .ok (.i2d, 1) := by decide +kernel
theorem dN_row_140 : decode bN_row 140 = .ok (.dsub, 1) := by decide +kernel
theorem dN_row_141 : decode bN_row 141 = .ok (.dmul, 1) := by decide +kernel
theorem dN_row_142 : decode bN_row 142 = .ok (.getstatic 86, 3) := by decide +kernel
theorem dN_row_145 : decode bN_row 145 = .ok (.iload 4, 2) := by decide +kernel
theorem dN_row_147 : decode bN_row 147 = .ok (.iconst 1, 1) := by decide +kernel
theorem dN_row_148 : decode bN_row 148 = .ok (.iadd, 1) := by decide +kernel
theorem dN_row_149 : decode bN_row 149 = .ok (.iaload, 1) := by decide +kernel
theorem dN_row_150 : decode bN_row 150 = .ok (.getstatic 86, 3) := by decide +kernel
theorem dN_row_153 : decode bN_row 153 = .ok (.iload 4, 2) := by decide +kernel
theorem dN_row_155 : decode bN_row 155 = .ok (.iaload, 1) := by decide +kernel
theorem dN_row_156 : decode bN_row 156 = .ok (.isub, 1) := by decide +kernel
theorem dN_row_157 : decode bN_row 157 = .ok (.i2d, 1) := by decide +kernel
theorem dN_row_158 : decode bN_row 158 = .ok (.ddiv, 1) := by decide +kernel
theorem dN_row_159 : decode bN_row 159 = .ok (.dadd, 1) := by decide +kernel
theorem dN_row_160 : decode bN_row 160 = .ok (.dreturn, 1) := by decide +kernel
theorem dN_second_0 : decode bN_second 0 = .ok (.iconst 0, 1) := by decide +kernel
theorem dN_second_1 : decode bN_second 1 = .ok (.istore_n 1, 1) := by decide +kernel
theorem dN_second_2 : decode bN_second 2 = .ok (.iload_n 1, 1) := by decide +kernel
theorem dN_second_3 : decode bN_second 3 = .ok (.aload_n 0, 1) := by decide +kernel
theorem dN_second_4 : decode bN_second 4 = .ok (.getfield 75, 3) := by decide +kernel
theorem dN_second_7 : decode bN_second 7 = .ok (.if_icmp .ge 22, 3) := by decide +kernel
theorem dN_second_10 : decode bN_second 10 = .ok (.aload_n 0, 1) := by decide +kernel
theorem dN_second_11 : decode bN_second 11 = .ok (.getfield 13, 3) := by decide +kernel
theorem dN_second_14 : decode bN_second 14 = .ok (.iload_n 1, 1) := by decide +kernel
theorem dN_second_15 : decode bN_second 15 = .ok (.iaload, 1) := by decide +kernel
theorem dN_second_16 : decode bN_second 16 = .ok (.aload_n 0, 1) := by decide +kernel
theorem dN_second_17 : decode bN_second 17 = .ok (.getfield 71, 3) := by decide +kernel
theorem dN_second_20 : decode bN_second 20 = .ok (.if_icmp .gt 9, 3) := by decide +kernel
theorem dN_second_23 : decode bN_second 23 = .ok (.iinc 1 1, 3) := by decide +kernel
theorem dN_second_26 : decode bN_second 26 = .ok (.goto (-24), 3) := by decide +kernel
theorem dN_second_29 : decode bN_second 29 = .ok (.iload_n 1, 1) := by decide +kernel
theorem dN_second_30 : decode bN_second 30 = .ok (.aload_n 0, 1) := by decide +kernel
theorem dN_second_31 : decode bN_second 31 = .ok (.getfield 75, 3) := by decide +kernel
theorem dN_second_34 : decode bN_second 34 = .ok (.if_icmp .ge 36, 3) := by decide +kernel
end
section
theorem dN_second_37 : decode bN_second 37 = .ok (.aload_n 0, 1) := by decide +kernel
theorem dN_second_38 : decode bN_second 38 = .ok (.aload_n 0, 1) := by decide +kernel
theorem dN_second_39 : decode bN_second 39 = .ok (.getfield 62, 3) := by decide +kernel
theorem dN_second_42 : decode bN_second 42 = .ok (.aload_n 0, 1) := by decide +kernel
theorem dN_second_43 : decode bN_second 43 = .ok (.getfield 17, 3) := by decide +kernel
theorem dN_second_46 : decode bN_second 46 = .ok (.iload_n 1, 1) := by decide +kernel
theorem dN_second_47 : decode bN_second 47 = .ok (.daload, 1) := by decide +kernel
theorem dN_second_48 : decode bN_second 48 = .ok (.aload_n 0, 1) := by decide +kernel
theorem dN_second_49 : decode bN_second 49 = .ok (.getfield 62, 3) := by decide +kernel
theorem dN_second_52 : decode bN_second 52 = .ok (.dsub, 1) := by decide +kernel
theorem dN_second_53 : decode bN_second 53 = .ok (.aload_n 0, 1) := by decide +kernel
theorem dN_second_54 : decode bN_second 54 = .ok (.getfield 13, 3) := by decide +kernel
theorem dN_second_57 : decode bN_second 57 = .ok (.iload_n 1, 1) := by decide +kernel
theorem dN_second_58 : decode bN_second 58 = .ok (.iaload, 1) := by decide +kernel
theorem dN_second_59 : decode bN_second 59 = .ok (.aload_n 0, 1) := by decide +kernel
theorem dN_second_60 : decode bN_second 60 = .ok (.getfield 71, 3) := by decide +kernel
theorem dN_second_63 : decode bN_second 63 = .ok (.isub, 1) := by decide +kernel
theorem dN_second_64 : decode bN_second 64 = .ok (.i2d, 1) := by decide +kernel
theorem dN_second_65 : decode bN_second 65 = .ok (.ddiv, 1) := by decide +kernel
theorem dN_second_66 : decode bN_second 66 = .ok (.dadd, 1) := by decide +kernel
theorem dN_second_67 : decode bN_second 67 = .ok (.putfield 62, 3) := by decide +kernel
theorem dN_second_70 : decode bN_second 70 = .ok (.dconst 1, 1) := by decide +kernel
theorem dN_second_71 : decode bN_second 71 = .ok (.aload_n 0, 1) := by decide +kernel
theorem dN_second_72 : decode bN_second 72 = .ok (.getfield 65, 3) := by decide +kernel
theorem dN_second_75 : decode bN_second 75 = .ok (.ldc2_w 89, 3) := by decide +kernel
theorem dN_second_78 : decode bN_second 78 = .ok (.dsub, 1) := by decide +kernel
theorem dN_second_79 : decode bN_second 79 = .ok (.aload_n 0, 1) := by decide +kernel
theorem dN_second_80 : decode bN_second 80 = .ok (.getfield 65, 3) := by decide +kernel
theorem dN_second_83 : decode bN_second 83 = .ok (.ldc2_w 89, 3) := by decide +kernel
theorem dN_second_86 : decode bN_second 86 = .ok (.dsub, 1) := by decide +kernel
theorem dN_second_87 : decode bN_second 87 = .ok (.dmul, 1) := by decide +kernel
theorem dN_second_88 : decode bN_second 88 = .ok (.ldc2_w 44, 3) := by decide +kernel
theorem dN_second_91 : decode bN_second 91 = .ok (.dmul, 1) := by decide +kernel
theorem dN_second_92 : decode bN_second 92 = .ok (.dsub, 1) := by decide +kernel
theorem dN_second_93 : decode bN_second 93 = .ok (.dstore_n 2, 1) := by decide +kernel
theorem dN_second_94 : decode bN_second 94 = .ok (.dload_n 2, 1) := by decide +kernel
theorem dN_second_95 : decode bN_second 95 = .ok (.dconst 0, 1) := by decide +kernel
theorem dN_second_96 : decode bN_second 96 = .ok (.dcmp .g, 1) := by decide +kernel
theorem dN_second_97 : decode bN_second 97 = .ok (.ifCond .ge 7, 3) := by decide +kernel
theorem dN_second_100 : decode bN_second 100 = .ok (.dconst 0, 1) := by decide +kernel
theorem dN_second_101 : decode bN_second 101 = .ok (.goto 4, 3) := by decide +kernel
theorem dN_second_104 : decode bN_second 104 = .ok (.dload_n 2, 1) := by decide +kernel
theorem dN_second_105 : decode bN_second 105 = .ok (.dstore_n 2, 1) := by decide +kernel
theorem dN_second_106 : decode bN_second 106 = .ok (.iconst 0, 1) := by decide +kernel
theorem dN_second_107 : decode bN_second 107 = .ok (.istore 4, 2) := by decide +kernel
theorem dN_second_109 : decode bN_second 109 = .ok (.iload 4, 2) := by decide +kernel
theorem dN_second_111 : decode bN_second 111 = .ok (.iconst 4, 1) := by decide +kernel
theorem dN_second_112 : decode bN_second 112 = .ok (.if_icmp .ge 64, 3) := by decide +kernel
theorem dN_second_115 : decode bN_second 115 = .ok (.aload_n 0, 1) := by decide +kernel
theorem dN_second_116 : decode bN_second 116 = .ok (.getfield 9, 3) := by decide +kernel
theorem dN_second_119 : decode bN_second 119 = .ok (.bipush 9, 2) := by decide +kernel
theorem dN_second_121 : decode bN_second 121 = .ok (.iload 4, 2) := by decide +kernel
theorem dN_second_123 : decode bN_second 123 = .ok (.iadd, 1) := by decide +kernel
theorem dN_second_124 : decode bN_second 124 = .ok (.daload, 1) := by decide +kernel
theorem dN_second_125 : decode bN_second 125 = .ok (.aload_n 0, 1) := by decide +kernel
theorem dN_second_126 : decode bN_second 126 = .ok (.iload 4, 2) := by decide +kernel
theorem dN_second_128 : decode bN_second 128 = .ok (.invokevirtual 91, 3) := by decide +kernel
theorem dN_second_131 : decode bN_second 131 = .ok (.dmul, 1) := by decide +kernel
theorem dN_second_132 : decode bN_second 132 = .ok (.dload_n 2, 1) := by decide +kernel
theorem dN_second_133 : decode bN_second 133 = .ok (.dmul, 1) := by decide +kernel
theorem dN_second_134 : decode bN_second 134 = .ok (.dstore 5, 2) := by decide +kernel
theorem dN_second_136 : decode bN_second 136 = .ok (.aload_n 0, 1) := by decide +kernel
theorem dN_second_137 : decode bN_second 137 = .ok (.getfield 27, 3) := by decide +kernel
theorem dN_second_140 : decode bN_second 140 = .ok (.iload 4, 2) := by decide +kernel
theorem dN_second_142 : decode bN_second 142 = .ok (.dload 5, 2) := by decide +kernel
theorem dN_second_144 : decode bN_second 144 = .ok (.dconst 0, 1) := by decide +kernel
theorem dN_second_145 : decode bN_second 145 = .ok (.dcmp .l, 1) := by decide +kernel
theorem dN_second_146 : decode bN_second 146 = .ok (.ifCond .le 22, 3) := by decide +kernel
theorem dN_second_149 : decode bN_second 149 = .ok (.dload 5, 2) := by decide +kernel
theorem dN_second_151 : decode bN_second 151 = .ok (.dload 5, 2) := by decide +kernel
theorem dN_second_153 : decode bN_second 153 = .ok (.aload_n 0, 1) := by decide +kernel
theorem dN_second_154 : decode bN_second 154 = .ok (.getfield 9, 3) := by decide +kernel
theorem dN_second_157 : decode bN_second 157 = .ok (.iconst 0, 1) := by decide +kernel
theorem dN_second_158 : decode bN_second 158 = .ok (.daload, 1) := by decide +kernel
theorem dN_second_159 : decode bN_second 159 = .ok (.dadd, 1) := by decide +kernel
theorem dN_second_160 : decode bN_second 160 = .ok (.ddiv, 1) := by decide +kernel
theorem dN_second_161 : decode bN_second 161 = .ok (.ldc2_w 38, 3) := by decide +kernel
theorem dN_second_164 : decode bN_second 164 = .ok (.dmul, 1) := by decide +kernel
theorem dN_second_165 : decode bN_second 165 = .ok (.goto 4, 3) := by decide +kernel
theorem dN_second_168 : decode bN_second 168 = .ok (.dconst 0, 1) := by decide +kernel
theorem dN_second_169 : decode bN_second 169 = .ok (.dastore, 1) := by decide +kernel
theorem dN_second_170 : decode bN_second 170 = .ok (.iinc 4 1, 3) := by decide +kernel
theorem dN_second_173 : decode bN_second 173 = .ok (.goto (-64), 3) := by decide +kernel
theorem dN_second_176 : decode bN_second 176 = .ok (.aload_n 0, 1) := by decide +kernel
theorem dN_second_177 : decode bN_second 177 = .ok (.getfield 9, 3) := by decide +kernel
theorem dN_second_180 : decode bN_second 180 = .ok (.iconst 1, 1) := by decide +kernel
theorem dN_second_181 : decode bN_second 181 = .ok (.daload, 1) := by decide +kernel
theorem dN_second_182 : decode bN_second 182 = .ok (.aload_n 0, 1) := by decide +kernel
theorem dN_second_183 : decode bN_second 183 = .ok (.iconst 4, 1) := by decide +kernel
theorem dN_second_184 : decode bN_second 184 = .ok (.invokevirtual 91, 3) := by decide +kernel
theorem dN_second_187 : decode bN_second 187 = .ok (.dmul, 1) := by decide +kernel
theorem dN_second_188 : decode bN_second 188 = .ok (.dstore 4, 2) := by decide +kernel
theorem dN_second_190 : decode bN_second 190 = .ok (.aload_n 0, 1) := by decide +kernel
theorem dN_second_191 : decode bN_second 191 = .ok (.getfield 9, 3) := by decide +kernel
theorem dN_second_194 : decode bN_second 194 = .ok (.iconst 1, 1) := by decide +kernel
theorem dN_second_195 : decode bN_second 195 = .ok (.aload_n 0, 1) := by decide +kernel
theorem dN_second_196 : decode bN_second 196 = .ok (.getfield 9, 3) := by decide +kernel
theorem dN_second_199 : decode bN_second 199 = .ok (.iconst 1, 1) := by decide +kernel
theorem dN_second_200 : decode bN_second 200 = .ok (.daload, 1) := by decide +kernel
theorem dN_second_201 : decode bN_second 201 = .ok (.dload 4, 2) := by decide +kernel
theorem dN_second_203 : decode bN_second 203 = .ok (.dsub, 1) := by decide +kernel
theorem dN_second_204 : decode bN_second 204 = .ok (.dastore, 1) := by decide +kernel
theorem dN_second_205 : decode bN_second 205 = .ok (.aload_n 0, 1) := by decide +kernel
theorem dN_second_206 : decode bN_second 206 = .ok (.getfield 9, 3) := by decide +kernel
theorem dN_second_209 : decode bN_second 209 = .ok (.iconst 2, 1) := by decide +kernel
theorem dN_second_210 : decode bN_second 210 = .ok (.aload_n 0, 1) := by decide +kernel
theorem dN_second_211 : decode bN_second 211 = .ok (.getfield 9, 3) := by decide +kernel
theorem dN_second_214 : decode bN_second 214 = .ok (.iconst 2, 1) := by decide +kernel
theorem dN_second_215 : decode bN_second 215 = .ok (.daload, 1) := by decide +kernel
theorem dN_second_216 : decode bN_second 216 = .ok (.dload 4, 2) := by decide +kernel
theorem dN_second_218 : decode bN_second 218 = .ok (.dadd, 1) := by decide +kernel
theorem dN_second_219 : decode bN_second 219 = .ok (.dastore, 1) := by decide +kernel
theorem dN_second_220 : decode bN_second 220 = .ok (.aload_n 0, 1) := by decide +kernel
theorem dN_second_221 : decode bN_second 221 = .ok (.getfield 9, 3) := by decide +kernel
theorem dN_second_224 : decode bN_second 224 = .ok (.iconst 2, 1) := by decide +kernel
theorem dN_second_225 : decode bN_second 225 = .ok (.daload, 1) := by decide +kernel
theorem dN_second_226 : decode bN_second 226 = .ok (.aload_n 0, 1) := by decide +kernel
theorem dN_second_227 : decode bN_second 227 = .ok (.getfield 27, 3) := by decide +kernel
theorem dN_second_230 : decode bN_second 230 = .ok (.iconst 0, 1) := by decide +kernel
theorem dN_second_231 : decode bN_second 231 = .ok (.daload, 1) := by decide +kernel
theorem dN_second_232 : decode bN_second 232 = .ok (.dmul, 1) := by decide +kernel
theorem dN_second_233 : decode bN_second 233 = .ok (.dstore 6, 2) := by decide +kernel
theorem dN_second_235 : decode bN_second 235 = .ok (.aload_n 0, 1) := by decide +kernel
theorem dN_second_236 : decode bN_second 236 = .ok (.getfield 9, 3) := by decide +kernel
theorem dN_second_239 : decode bN_second 239 = .ok (.iconst 2, 1) := by decide +kernel
theorem dN_second_240 : decode bN_second 240 = .ok (.aload_n 0, 1) := by decide +kernel
theorem dN_second_241 : decode bN_second 241 = .ok (.getfield 9, 3) := by decide +kernel
theorem dN_second_244 : decode bN_second 244 = .ok (.iconst 2, 1) := by decide +kernel
theorem dN_second_245 : decode bN_second 245 = .ok (.daload, 1) := by decide +kernel
theorem dN_second_246 : decode bN_second 246 = .ok (.dload 6, 2) := by decide +kernel
theorem dN_second_248 : decode bN_second 248 = .ok (.dsub, 1) := by decide +kernel
theorem dN_second_249 : decode bN_second 249 = .ok (.dastore, 1) := by decide +kernel
theorem dN_second_250 : decode bN_second 250 = .ok (.aload_n 0, 1) := by decide +kernel
theorem dN_second_251 : decode bN_second 251 = .ok (.getfield 9, 3) := by decide +kernel
theorem dN_second_254 : decode bN_second 254 = .ok (.bipush 6, 2) := by decide +kernel
theorem dN_second_256 : decode bN_second 256 = .ok (.aload_n 0, 1) := by decide +kernel
theorem dN_second_257 : decode bN_second 257 = .ok (.getfield 9, 3) := by decide +kernel
theorem dN_second_260 : decode bN_second 260 = .ok (.bipush 6, 2) := by decide +kernel
theorem dN_second_262 : decode bN_second 262 = .ok (.daload, 1) := by decide +kernel
theorem dN_second_263 : decode bN_second 263 = .ok (.dload 6, 2) := by decide +kernel
theorem dN_second_265 : decode bN_second 265 = .ok (.ldc2_w 42, 3) := by decide +kernel
theorem dN_second_268 : decode bN_second 268 = .ok (.dmul, 1) := by decide +kernel
theorem dN_second_269 : decode bN_second 269 = .ok (.dadd, 1) := by decide +kernel
theorem dN_second_270 : decode bN_second 270 = .ok (.dastore, 1) := by decide +kernel
theorem dN_second_271 : decode bN_second 271 = .ok (.aload_n 0, 1) := by decide +kernel
theorem dN_second_272 : decode bN_second 272 = .ok (.getfield 9, 3) := by decide +kernel
theorem dN_second_275 : decode bN_second 275 = .ok (.iconst 5, 1) := by decide +kernel
theorem dN_second_276 : decode bN_second 276 = .ok (.aload_n 0, 1) := by decide +kernel
theorem dN_second_277 : decode bN_second 277 = .ok (.getfield 9, 3) := by decide +kernel
theorem dN_second_280 : decode bN_second 280 = .ok (.iconst 5, 1) := by decide +kernel
theorem dN_second_281 : decode bN_second 281 = .ok (.daload, 1) := by decide +kernel
theorem dN_second_282 : decode bN_second 282 = .ok (.dload 6, 2) := by decide +kernel
theorem dN_second_284 : decode bN_second 284 = .ok (.ldc2_w 44, 3) := by decide +kernel
theorem dN_second_287 : decode bN_second 287 = .ok (.dmul, 1) := by decide +kernel
theorem dN_second_288 : decode bN_second 288 = .ok (.dadd, 1) := by decide +kernel
theorem dN_second_289 : decode bN_second 289 = .ok (.dastore, 1) := by decide +kernel
theorem dN_second_290 : decode bN_second 290 = .ok (.aload_n 0, 1) := by decide +kernel
theorem dN_second_291 : decode bN_second 291 = .ok (.getfield 9, 3) := by decide +kernel
theorem dN_second_294 : decode bN_second 294 = .ok (.bipush 6, 2) := by decide +kernel
theorem dN_second_296 : decode bN_second 296 = .ok (.daload, 1) := by decide +kernel
theorem dN_second_297 : decode bN_second 297 = .ok (.aload_n 0, 1) := by decide +kernel
theorem dN_second_298 : decode bN_second 298 = .ok (.getfield 27, 3) := by decide +kernel
theorem dN_second_301 : decode bN_second 301 = .ok (.iconst 1, 1) := by decide +kernel
theorem dN_second_302 : decode bN_second 302 = .ok (.daload, 1) := by decide +kernel
theorem dN_second_303 : decode bN_second 303 = .ok (.dmul, 1) := by decide +kernel
theorem dN_second_304 : decode bN_second 304 = .ok (.dstore 8, 2) := by decide +kernel
theorem dN_second_306 : decode bN_second 306 = .ok (.aload_n 0, 1) := by decide +kernel
theorem dN_second_307 : decode bN_second 307 = .ok (.getfield 9, 3) := by decide +kernel
theorem dN_second_310 : decode bN_second 310 = .ok (.iconst 0, 1) := by decide +kernel
theorem dN_second_311 : decode bN_second 311 = .ok (.daload, 1) := by decide +kernel
theorem dN_second_312 : decode bN_second 312 = .ok (.ldc2_w 60, 3) := by decide +kernel
theorem dN_second_315 : decode bN_second 315 = .ok (.dmul, 1) := by decide +kernel
theorem dN_second_316 : decode bN_second 316 = .ok (.dload 8, 2) := by decide +kernel
theorem dN_second_318 : decode bN_second 318 = .ok (.dcmp .g, 1) := by decide +kernel
theorem dN_second_319 : decode bN_second 319 = .ok (.ifCond .ge 16, 3) := by decide +kernel
theorem dN_second_322 : decode bN_second 322 = .ok (.aload_n 0, 1) := by decide +kernel
theorem dN_second_323 : decode bN_second 323 = .ok (.getfield 9, 3) := by decide +kernel
theorem dN_second_326 : decode bN_second 326 = .ok (.iconst 0, 1) := by decide +kernel
theorem dN_second_327 : decode bN_second 327 = .ok (.daload, 1) := by decide +kernel
theorem dN_second_328 : decode bN_second 328 = .ok (.ldc2_w 60, 3) := by decide +kernel
theorem dN_second_331 : decode bN_second 331 = .ok (.dmul, 1) := by decide +kernel
theorem dN_second_332 : decode bN_second 332 = .ok (.goto 5, 3) := by decide +kernel
theorem dN_second_335 : decode bN_second 335 = .ok (.dload 8, 2) := by decide +kernel
theorem dN_second_337 : decode bN_second 337 = .ok (.dstore 8, 2) := by decide +kernel
theorem dN_second_339 : decode bN_second 339 = .ok (.aload_n 0, 1) := by decide +kernel
theorem dN_second_340 : decode bN_second 340 = .ok (.getfield 9, 3) := by decide +kernel
theorem dN_second_343 : decode bN_second 343 = .ok (.bipush 6, 2) := by decide +kernel
theorem dN_second_345 : decode bN_second 345 = .ok (.aload_n 0, 1) := by decide +kernel
theorem dN_second_346 : decode bN_second 346 = .ok (.getfield 9, 3) := by decide +kernel
theorem dN_second_349 : decode bN_second 349 = .ok (.bipush 6, 2) := by decide +kernel
theorem dN_second_351 : decode bN_second 351 = .ok (.daload, 1) := by decide +kernel
theorem dN_second_352 : decode bN_second 352 = .ok (.dload 8, 2) := by decide +kernel
theorem dN_second_354 : decode bN_second 354 = .ok (.dsub, 1) := by decide +kernel
theorem dN_second_355 : decode bN_second 355 = .ok (.dastore, 1) := by decide +kernel
theorem dN_second_356 : decode bN_second 356 = .ok (.aload_n 0, 1) := by decide +kernel
theorem dN_second_357 : decode bN_second 357 = .ok (.getfield 9, 3) := by decide +kernel
theorem dN_second_360 : decode bN_second 360 = .ok (.iconst 4, 1) := by decide +kernel
theorem dN_second_361 : decode bN_second 361 = .ok (.aload_n 0, 1) := by decide +kernel
theorem dN_second_362 : decode bN_second 362 = .ok (.getfield 9, 3) := by decide +kernel
theorem dN_second_365 : decode bN_second 365 = .ok (.iconst 4, 1) := by decide +kernel
theorem dN_second_366 : decode bN_second 366 = .ok (.daload, 1) := by decide +kernel
theorem dN_second_367 : decode bN_second 367 = .ok (.dload 8, 2) := by decide +kernel
theorem dN_second_369 : decode bN_second 369 = .ok (.ldc2_w 95, 3) := by decide +kernel
theorem dN_second_372 : decode bN_second 372 = .ok (.dmul, 1) := by decide +kernel
theorem dN_second_373 : decode bN_second 373 = .ok (.dadd, 1) := by decide +kernel
theorem dN_second_374 : decode bN_second 374 = .ok (.dastore, 1) := by decide +kernel
theorem dN_second_375 : decode bN_second 375 = .ok (.aload_n 0, 1) := by decide +kernel
theorem dN_second_376 : decode bN_second 376 = .ok (.getfield 9, 3) := by decide +kernel
theorem dN_second_379 : decode bN_second 379 = .ok (.iconst 0, 1) := by decide +kernel
theorem dN_second_380 : decode bN_second 380 = .ok (.aload_n 0, 1) := by decide +kernel
theorem dN_second_381 : decode bN_second 381 = .ok (.getfield 9, 3) := by decide +kernel
theorem dN_second_384 : decode bN_second 384 = .ok (.iconst 0, 1) := by decide +kernel
theorem dN_second_385 : decode bN_second 385 = .ok (.daload, 1) := by decide +kernel
theorem dN_second_386 : decode bN_second 386 = .ok (.dload 8, 2) := by decide +kernel
theorem dN_second_388 : decode bN_second 388 = .ok (.ldc2_w 38, 3) := by decide +kernel
theorem dN_second_391 : decode bN_second 391 = .ok (.dmul, 1) := by decide +kernel
theorem dN_second_392 : decode bN_second 392 = .ok (.dsub, 1) := by decide +kernel
theorem dN_second_393 : decode bN_second 393 = .ok (.dastore, 1) := by decide +kernel
theorem dN_second_394 : decode bN_second 394 = .ok (.aload_n 0, 1) := by decide +kernel
theorem dN_second_395 : decode bN_second 395 = .ok (.getfield 9, 3) := by decide +kernel
theorem dN_second_398 : decode bN_second 398 = .ok (.bipush 6, 2) := by decide +kernel
theorem dN_second_400 : decode bN_second 400 = .ok (.daload, 1) := by decide +kernel
theorem dN_second_401 : decode bN_second 401 = .ok (.aload_n 0, 1) := by decide +kernel
theorem dN_second_402 : decode bN_second 402 = .ok (.getfield 27, 3) := by decide +kernel
theorem dN_second_405 : decode bN_second 405 = .ok (.iconst 2, 1) := by decide +kernel
theorem dN_second_406 : decode bN_second 406 = .ok (.daload, 1) := by decide +kernel
theorem dN_second_407 : decode bN_second 407 = .ok (.dmul, 1) := by decide +kernel
theorem dN_second_408 : decode bN_second 408 = .ok (.dstore 10, 2) := by decide +kernel
theorem dN_second_410 : decode bN_second 410 = .ok (.aload_n 0, 1) := by decide +kernel
theorem dN_second_411 : decode bN_second 411 = .ok (.getfield 9, 3) := by decide +kernel
theorem dN_second_414 : decode bN_second 414 = .ok (.iconst 0, 1) := by decide +kernel
theorem dN_second_415 : decode bN_second 415 = .ok (.daload, 1) := by decide +kernel
theorem dN_second_416 : decode bN_second 416 = .ok (.ldc2_w 97, 3) := by decide +kernel
theorem dN_second_419 : decode bN_second 419 = .ok (.dmul, 1) := by decide +kernel
theorem dN_second_420 : decode bN_second 420 = .ok (.dload 10, 2) := by decide +kernel
theorem dN_second_422 : decode bN_second 422 = .ok (.dcmp .g, 1) := by decide +kernel
theorem dN_second_423 : decode bN_second 423 = .ok (.ifCond .ge 16, 3) := by decide +kernel
theorem dN_second_426 : decode bN_second 426 = .ok (.aload_n 0, 1) := by decide +kernel
theorem dN_second_427 : decode bN_second 427 = .ok (.getfield 9, 3) := by decide +kernel
theorem dN_second_430 : decode bN_second 430 = .ok (.iconst 0, 1) := by decide +kernel
theorem dN_second_431 : decode bN_second 431 = .ok (.daload, 1) := by decide +kernel
theorem dN_second_432 : decode bN_second 432 = .ok (.ldc2_w 97, 3) := by decide +kernel
theorem dN_second_435 : decode bN_second 435 = .ok (.dmul, 1) := by decide +kernel
theorem dN_second_436 : decode bN_second 436 = .ok (.goto 5, 3) := by decide +kernel
theorem dN_second_439 : decode bN_second 439 = .ok (.dload 10, 2) := by decide +kernel
theorem dN_second_441 : decode bN_second 441 = .ok (.dstore 10, 2) := by decide +kernel
theorem dN_second_443 : decode bN_second 443 = .ok (.aload_n 0, 1) := by decide +kernel
theorem dN_second_444 : decode bN_second 444 = .ok (.getfield 9, 3) := by decide +kernel
theorem dN_second_447 : decode bN_second 447 = .ok (.bipush 6, 2) := by decide +kernel
theorem dN_second_449 : decode bN_second 449 = .ok (.aload_n 0, 1) := by decide +kernel
theorem dN_second_450 : decode bN_second 450 = .ok (.getfield 9, 3) := by decide +kernel
theorem dN_second_453 : decode bN_second 453 = .ok (.bipush 6, 2) := by decide +kernel
theorem dN_second_455 : decode bN_second 455 = .ok (.daload, 1) := by decide +kernel
theorem dN_second_456 : decode bN_second 456 = .ok (.dload 10, 2) := by decide +kernel
theorem dN_second_458 : decode bN_second 458 = .ok (.dsub, 1) := by decide +kernel
theorem dN_second_459 : decode bN_second 459 = .ok (.dastore, 1) := by decide +kernel
theorem dN_second_460 : decode bN_second 460 = .ok (.aload_n 0, 1) := by decide +kernel
theorem dN_second_461 : decode bN_second 461 = .ok (.getfield 9, 3) := by decide +kernel
theorem dN_second_464 : decode bN_second 464 = .ok (.iconst 3, 1) := by decide +kernel
theorem dN_second_465 : decode bN_second 465 = .ok (.aload_n 0, 1) := by decide +kernel
theorem dN_second_466 : decode bN_second 466 = .ok (.getfield 9, 3) := by decide +kernel
theorem dN_second_469 : decode bN_second 469 = .ok (.iconst 3, 1) := by decide +kernel
theorem dN_second_470 : decode bN_second 470 = .ok (.daload, 1) := by decide +kernel
theorem dN_second_471 : decode bN_second 471 = .ok (.dload 10, 2) := by decide +kernel
theorem dN_second_473 : decode bN_second 473 = .ok (.ldc2_w 99, 3) := by decide +kernel
theorem dN_second_476 : decode bN_second 476 = .ok (.dmul, 1) := by decide +kernel
theorem dN_second_477 : decode bN_second 477 = .ok (.dadd, 1) := by decide +kernel
theorem dN_second_478 : decode bN_second 478 = .ok (.dastore, 1) := by decide +kernel
theorem dN_second_479 : decode bN_second 479 = .ok (.aload_n 0, 1) := by decide +kernel
theorem dN_second_480 : decode bN_second 480 = .ok (.getfield 9, 3) := by decide +kernel
theorem dN_second_483 : decode bN_second 483 = .ok (.iconst 0, 1) := by decide +kernel
theorem dN_second_484 : decode bN_second 484 = .ok (.aload_n 0, 1) := by decide +kernel
theorem dN_second_485 : decode bN_second 485 = .ok (.getfield 9, 3) := by decide +kernel
theorem dN_second_488 : decode bN_second 488 = .ok (.iconst 0, 1) := by decide +kernel
theorem dN_second_489 : decode bN_second 489 = .ok (.daload, 1) := by decide +kernel
theorem dN_second_490 : decode bN_second 490 = .ok (.dload 10, 2) := by decide +kernel
theorem dN_second_492 : decode bN_second 492 = .ok (.ldc2_w 36, 3) := by decide +kernel
theorem dN_second_495 : decode bN_second 495 = .ok (.dmul, 1) := by decide +kernel
theorem dN_second_496 : decode bN_second 496 = .ok (.dsub, 1) := by decide +kernel
theorem dN_second_497 : decode bN_second 497 = .ok (.dastore, 1) := by decide +kernel
theorem dN_second_498 : decode bN_second 498 = .ok (.aload_n 0, 1) := by decide +kernel
theorem dN_second_499 : decode bN_second 499 = .ok (.getfield 9, 3) := by decide +kernel
theorem dN_second_502 : decode bN_second 502 = .ok (.bipush 8, 2) := by decide +kernel
theorem dN_second_504 : decode bN_second 504 = .ok (.daload, 1) := by decide +kernel
theorem dN_second_505 : decode bN_second 505 = .ok (.aload_n 0, 1) := by decide +kernel
theorem dN_second_506 : decode bN_second 506 = .ok (.getfield 27, 3) := by decide +kernel
theorem dN_second_509 : decode bN_second 509 = .ok (.iconst 3, 1) := by decide +kernel
theorem dN_second_510 : decode bN_second 510 = .ok (.daload, 1) := by decide +kernel
theorem dN_second_511 : decode bN_second 511 = .ok (.dmul, 1) := by decide +kernel
theorem dN_second_512 : decode bN_second 512 = .ok (.dstore 12, 2) := by decide +kernel
theorem dN_second_514 : decode bN_second 514 = .ok (.aload_n 0, 1) := by decide +kernel
theorem dN_second_515 : decode bN_second 515 = .ok (.getfield 9, 3) := by decide +kernel
theorem dN_second_518 : decode bN_second 518 = .ok (.bipush 8, 2) := by decide +kernel
theorem dN_second_520 : decode bN_second 520 = .ok (.aload_n 0, 1) := by decide +kernel
theorem dN_second_521 : decode bN_second 521 = .ok (.getfield 9, 3) := by decide +kernel
theorem dN_second_524 : decode bN_second 524 = .ok (.bipush 8, 2) := by decide +kernel
theorem dN_second_526 : decode bN_second 526 = .ok (.daload, 1) := by decide +kernel
theorem dN_second_527 : decode bN_second 527 = .ok (.dload 12, 2) := by decide +kernel
theorem dN_second_529 : decode bN_second 529 = .ok (.dsub, 1) := by decide +kernel
theorem dN_second_530 : decode bN_second 530 = .ok (.dastore, 1) := by decide +kernel
theorem dN_second_531 : decode bN_second 531 = .ok (.aload_n 0, 1) := by decide +kernel
theorem dN_second_532 : decode bN_second 532 = .ok (.getfield 9, 3) := by decide +kernel
theorem dN_second_535 : decode bN_second 535 = .ok (.bipush 7, 2) := by decide +kernel
theorem dN_second_537 : decode bN_second 537 = .ok (.aload_n 0, 1) := by decide +kernel
theorem dN_second_538 : decode bN_second 538 = .ok (.getfield 9, 3) := by decide +kernel
theorem dN_second_541 : decode bN_second 541 = .ok (.bipush 7, 2) := by decide +kernel
theorem dN_second_543 : decode bN_second 543 = .ok (.daload, 1) := by decide +kernel
theorem dN_second_544 : decode bN_second 544 = .ok (.dload 12, 2) := by decide +kernel
theorem dN_second_546 : decode bN_second 546 = .ok (.dadd, 1) := by decide +kernel
theorem dN_second_547 : decode bN_second 547 = .ok (.dastore, 1) := by decide +kernel
theorem dN_second_548 : decode bN_second 548 = .ok (.iconst 0, 1) := by decide +kernel
theorem dN_second_549 : decode bN_second 549 = .ok (.istore 14, 2) := by decide +kernel
theorem dN_second_551 : decode bN_second 551 = .ok (.iload 14, 2) := by decide +kernel
theorem dN_second_553 : decode bN_second 553 = .ok (.iconst 4, 1) := by decide +kernel
theorem dN_second_554 : decode bN_second 554 = .ok (.if_icmp .ge 49, 3) := by decide +kernel
theorem dN_second_557 : decode bN_second 557 = .ok (.aload_n 0, 1) := by decide +kernel
theorem dN_second_558 : decode bN_second 558 = .ok (.getfield 9, 3) := by decide +kernel
theorem dN_second_561 : decode bN_second 561 = .ok (.bipush 9, 2) := by decide +kernel
theorem dN_second_563 : decode bN_second 563 = .ok (.iload 14, 2) := by decide +kernel
theorem dN_second_565 : decode bN_second 565 = .ok (.iadd, 1) := by decide +kernel
theorem dN_second_566 : decode bN_second 566 = .ok (.aload_n 0, 1) := by decide +kernel
theorem dN_second_567 : decode bN_second 567 = .ok (.getfield 9, 3) := by decide +kernel
theorem dN_second_570 : decode bN_second 570 = .ok (.bipush 9, 2) := by decide +kernel
theorem dN_second_572 : decode bN_second 572 = .ok (.iload 14, 2) := by decide +kernel
theorem dN_second_574 : decode bN_second 574 = .ok (.iadd, 1) := by decide +kernel
theorem dN_second_575 : decode bN_second 575 = .ok (.daload, 1) := by decide +kernel
theorem dN_second_576 : decode bN_second 576 = .ok (.aload_n 0, 1) := by decide +kernel
theorem dN_second_577 : decode bN_second 577 = .ok (.getfield 9, 3) := by decide +kernel
theorem dN_second_580 : decode bN_second 580 = .ok (.bipush 9, 2) := by decide +kernel
theorem dN_second_582 : decode bN_second 582 = .ok (.iload 14, 2) := by decide +kernel
theorem dN_second_584 : decode bN_second 584 = .ok (.iadd, 1) := by decide +kernel
theorem dN_second_585 : decode bN_second 585 = .ok (.daload, 1) := by decide +kernel
theorem dN_second_586 : decode bN_second 586 = .ok (.aload_n 0, 1) := by decide +kernel
theorem dN_second_587 : decode bN_second 587 = .ok (.iconst 5, 1) := by decide +kernel
theorem dN_second_588 : decode bN_second 588 = .ok (.iload 14, 2) := by decide +kernel
theorem dN_second_590 : decode bN_second 590 = .ok (.iadd, 1) := by decide +kernel
theorem dN_second_591 : decode bN_second 591 = .ok (.invokevirtual 91, 3) := by decide +kernel
theorem dN_second_594 : decode bN_second 594 = .ok (.dmul, 1) := by decide +kernel
theorem dN_second_595 : decode bN_second 595 = .ok (.dsub, 1) := by decide +kernel
theorem dN_second_596 : decode bN_second 596 = .ok (.dastore, 1) := by decide +kernel
theorem dN_second_597 : decode bN_second 597 = .ok (.iinc 14 1, 3) := by decide +kernel
theorem dN_second_600 : decode bN_second 600 = .ok (.goto (-49), 3) := by decide +kernel
theorem dN_second_603 : decode bN_second 603 = .ok (.aload_n 0, 1) := by decide +kernel
theorem dN_second_604 : decode bN_second 604 = .ok (.dup, 1) := by decide +kernel
theorem dN_second_605 : decode bN_second 605 = .ok (.getfield 71, 3) := by decide +kernel
theorem dN_second_608 : decode bN_second 608 = .ok (.iconst 1, 1) := by decide +kernel
theorem dN_second_609 : decode bN_second 609 = .ok (.iadd, 1) := by decide +kernel
theorem dN_second_610 : decode bN_second 610 = .ok (.putfield 71, 3) := by decide +kernel
theorem dN_second_613 : decode bN_second 613 = .ok (.return_, 1) := by decide +kernel
theorem dN_isEmpty_0 : decode bN_isEmpty 0 = .ok (.aload_n 0, 1) := by decide +kernel
theorem dN_isEmpty_1 : decode bN_isEmpty 1 = .ok (.getfield 50, 3) := by decide +kernel
theorem dN_isEmpty_4 : decode bN_isEmpty 4 = .ok (.ifCond .eq 10, 3) := by decide +kernel
theorem dN_isEmpty_7 : decode bN_isEmpty 7 = .ok (.aload_n 0, 1) := by decide +kernel
theorem dN_isEmpty_8 : decode bN_isEmpty 8 = .ok (.getfield 68, 3) := by decide +kernel
theorem dN_isEmpty_11 : decode bN_isEmpty 11 = .ok (.ifCond .ne 7, 3) := by decide +kernel
theorem dN_isEmpty_14 : decode bN_isEmpty 14 = .ok (.iconst 1, 1) := by decide +kernel
theorem dN_isEmpty_15 : decode bN_isEmpty 15 = .ok (.goto 4, 3) := by decide +kernel
theorem dN_isEmpty_18 : decode bN_isEmpty 18 = .ok (.iconst 0, 1) := by decide +kernel
theorem dN_isEmpty_19 : decode bN_isEmpty 19 = .ok (.ireturn, 1) := by decide +kernel
theorem dN_run_0 : decode bN_run 0 = .ok (.aload_n 0, 1) := by decide +kernel
theorem dN_run_1 : decode bN_run 1 = .ok (.invokevirtual 101, 3) := by decide +kernel
theorem dN_run_4 : decode bN_run 4 = .ok (.ifCond .ne 24, 3) := by decide +kernel
theorem dN_run_7 : decode bN_run 7 = .ok (.iload_n 1, 1) := by decide +kernel
theorem dN_run_8 : decode bN_run 8 = .ok (.ifCond .lt 20, 3) := by decide +kernel
theorem dN_run_11 : decode bN_run 11 = .ok (.iload_n 1, 1) := by decide +kernel
theorem dN_run_12 : decode bN_run 12 = .ok (.ldc 105, 2) := by decide +kernel
theorem dN_run_14 : decode bN_run 14 = .ok (.if_icmp .gt 14, 3) := by decide +kernel
theorem dN_run_17 : decode bN_run 17 = .ok (.iload_n 1, 1) := by decide +kernel
theorem dN_run_18 : decode bN_run 18 = .ok (.ldc 78, 2) := by decide +kernel
theorem dN_run_20 : decode bN_run 20 = .ok (.aload_n 0, 1) := by decide +kernel
theorem dN_run_21 : decode bN_run 21 = .ok (.getfield 71, 3) := by decide +kernel
theorem dN_run_24 : decode bN_run 24 = .ok (.isub, 1) := by decide +kernel
theorem dN_run_25 : decode bN_run 25 = .ok (.if_icmp .le 5, 3) := by decide +kernel
theorem dN_run_28 : decode bN_run 28 = .ok (.iconst (-1), 1) := by decide +kernel
theorem dN_run_29 : decode bN_run 29 = .ok (.ireturn, 1) := by decide +kernel
theorem dN_run_30 : decode bN_run 30 = .ok (.iconst 0, 1) := by decide +kernel
theorem dN_run_31 : decode bN_run 31 = .ok (.istore_n 2, 1) := by decide +kernel
theorem dN_run_32 : decode bN_run 32 = .ok (.iload_n 2, 1) := by decide +kernel
theorem dN_run_33 : decode bN_run 33 = .ok (.iload_n 1, 1) := by decide +kernel
theorem dN_run_34 : decode bN_run 34 = .ok (.if_icmp .ge 13, 3) := by decide +kernel
theorem dN_run_37 : decode bN_run 37 = .ok (.aload_n 0, 1) := by decide +kernel
theorem dN_run_38 : decode bN_run 38 = .ok (.invokevirtual 106, 3) := by decide +kernel
theorem dN_run_41 : decode bN_run 41 = .ok (.iinc 2 1, 3) := by decide +kernel
theorem dN_run_44 : decode bN_run 44 = .ok (.goto (-12), 3) := by decide +kernel
theorem dN_run_47 : decode bN_run 47 = .ok (.aload_n 0, 1) := by decide +kernel
theorem dN_run_48 : decode bN_run 48 = .ok (.getfield 71, 3) := by decide +kernel
theorem dN_run_51 : decode bN_run 51 = .ok (.ireturn, 1) := by decide +kernel
theorem dN_sugar_0 : decode bN_sugar 0 = .ok (.iload_n 1, 1) := by decide +kernel
theorem dN_sugar_1 : decode bN_sugar 1 = .ok (.ifCond .lt 8, 3) := by decide +kernel
theorem dN_sugar_4 : decode bN_sugar 4 = .ok (.iload_n 1, 1) := by decide +kernel
theorem dN_sugar_5 : decode bN_sugar 5 = .ok (.iconst 4, 1) := by decide +kernel
theorem dN_sugar_6 : decode bN_sugar 6 = .ok (.if_icmp .le 9, 3) := by decide +kernel
theorem dN_sugar_9 : decode bN_sugar 9 = .ok (.ldc2_w 109, 3) := by decide +kernel
theorem dN_sugar_12 : decode bN_sugar 12 = .ok (.goto 11, 3) := by decide +kernel
theorem dN_sugar_15 : decode bN_sugar 15 = .ok (.aload_n 0, 1) := by decide +kernel
theorem dN_sugar_16 : decode bN_sugar 16 = .ok (.getfield 9, 3) := by decide +kernel
theorem dN_sugar_19 : decode bN_sugar 19 = .ok (.iconst 3, 1) := by decide +kernel
theorem dN_sugar_20 : decode bN_sugar 20 = .ok (.iload_n 1, 1) := by decide +kernel
theorem dN_sugar_21 : decode bN_sugar 21 = .ok (.iadd, 1) := by decide +kernel
theorem dN_sugar_22 : decode bN_sugar 22 = .ok (.daload, 1) := by decide +kernel
theorem dN_sugar_23 : decode bN_sugar 23 = .ok (.dreturn, 1) := by decide +kernel
theorem dN_starch_0 : decode bN_starch 0 = .ok (.aload_n 0, 1) := by decide +kernel
theorem dN_starch_1 : decode bN_starch 1 = .ok (.getfield 9, 3) := by decide +kernel
theorem dN_starch_4 : decode bN_starch 4 = .ok (.iconst 1, 1) := by decide +kernel
theorem dN_starch_5 : decode bN_starch 5 = .ok (.daload, 1) := by decide +kernel
theorem dN_starch_6 : decode bN_starch 6 = .ok (.aload_n 0, 1) := by decide +kernel
theorem dN_starch_7 : decode bN_starch 7 = .ok (.getfield 9, 3) := by decide +kernel
theorem dN_starch_10 : decode bN_starch 10 = .ok (.iconst 2, 1) := by decide +kernel
theorem dN_starch_11 : decode bN_starch 11 = .ok (.daload, 1) := by decide +kernel
theorem dN_starch_12 : decode bN_starch 12 = .ok (.dadd, 1) := by decide +kernel
theorem dN_starch_13 : decode bN_starch 13 = .ok (.dreturn, 1) := by decide +kernel
theorem dN_enzymeLeft_0 : decode bN_enzymeLeft 0 = .ok (.iload_n 1, 1) := by decide +kernel
theorem dN_enzymeLeft_1 : decode bN_enzymeLeft 1 = .ok (.ifCond .lt 8, 3) := by decide +kernel
theorem dN_enzymeLeft_4 : decode bN_enzymeLeft 4 = .ok (.iload_n 1, 1) := by decide +kernel
theorem dN_enzymeLeft_5 : decode bN_enzymeLeft 5 = .ok (.iconst 3, 1) := by decide +kernel
theorem dN_enzymeLeft_6 : decode bN_enzymeLeft 6 = .ok (.if_icmp .le 9, 3) := by decide +kernel
theorem dN_enzymeLeft_9 : decode bN_enzymeLeft 9 = .ok (.ldc2_w 109, 3) := by decide +kernel
theorem dN_enzymeLeft_12 : decode bN_enzymeLeft 12 = .ok (.goto 12, 3) := by decide +kernel
theorem dN_enzymeLeft_15 : decode bN_enzymeLeft 15 = .ok (.aload_n 0, 1) := by decide +kernel
theorem dN_enzymeLeft_16 : decode bN_enzymeLeft 16 = .ok (.getfield 9, 3) := by decide +kernel
theorem dN_enzymeLeft_19 : decode bN_enzymeLeft 19 = .ok (.bipush 9, 2) := by decide +kernel
theorem dN_enzymeLeft_21 : decode bN_enzymeLeft 21 = .ok (.iload_n 1, 1) := by decide +kernel
theorem dN_enzymeLeft_22 : decode bN_enzymeLeft 22 = .ok (.iadd, 1) := by decide +kernel
theorem dN_enzymeLeft_23 : decode bN_enzymeLeft 23 = .ok (.daload, 1) := by decide +kernel
theorem dN_enzymeLeft_24 : decode bN_enzymeLeft 24 = .ok (.dreturn, 1) := by decide +kernel
theorem dN_degrees_0 : decode bN_degrees 0 = .ok (.aload_n 0, 1) := by decide +kernel
theorem dN_degrees_1 : decode bN_degrees 1 = .ok (.getfield 62, 3) := by decide +kernel
theorem dN_degrees_4 : decode bN_degrees 4 = .ok (.dreturn, 1) := by decide +kernel
theorem dN_take_0 : decode bN_take 0 = .ok (.dload_n 1, 1) := by decide +kernel
theorem dN_take_1 : decode bN_take 1 = .ok (.dconst 0, 1) := by decide +kernel
theorem dN_take_2 : decode bN_take 2 = .ok (.dcmp .l, 1) := by decide +kernel
theorem dN_take_3 : decode bN_take 3 = .ok (.ifCond .le 16, 3) := by decide +kernel
theorem dN_take_6 : decode bN_take 6 = .ok (.dload_n 1, 1) := by decide +kernel
theorem dN_take_7 : decode bN_take 7 = .ok (.dconst 1, 1) := by decide +kernel
theorem dN_take_8 : decode bN_take 8 = .ok (.dcmp .l, 1) := by decide +kernel
theorem dN_take_9 : decode bN_take 9 = .ok (.ifCond .ge 10, 3) := by decide +kernel
theorem dN_take_12 : decode bN_take 12 = .ok (.aload_n 0, 1) := by decide +kernel
theorem dN_take_13 : decode bN_take 13 = .ok (.invokevirtual 101, 3) := by decide +kernel
theorem dN_take_16 : decode bN_take 16 = .ok (.ifCond .eq 5, 3) := by decide +kernel
theorem dN_take_19 : decode bN_take 19 = .ok (.iconst (-1), 1) := by decide +kernel
theorem dN_take_20 : decode bN_take 20 = .ok (.ireturn, 1) := by decide +kernel
theorem dN_take_21 : decode bN_take 21 = .ok (.aload_n 0, 1) := by decide +kernel
theorem dN_take_22 : decode bN_take 22 = .ok (.getfield 111, 3) := by decide +kernel
theorem dN_take_25 : decode bN_take 25 = .ok (.bipush 8, 2) := by decide +kernel
theorem dN_take_27 : decode bN_take 27 = .ok (.if_icmp .ne 6, 3) := by decide +kernel
theorem dN_take_30 : decode bN_take 30 = .ok (.bipush (-2), 2) := by decide +kernel
theorem dN_take_32 : decode bN_take 32 = .ok (.ireturn, 1) := by decide +kernel
theorem dN_take_33 : decode bN_take 33 = .ok (.iconst 0, 1) := by decide +kernel
theorem dN_take_34 : decode bN_take 34 = .ok (.istore_n 3, 1) := by decide +kernel
theorem dN_take_35 : decode bN_take 35 = .ok (.iload_n 3, 1) := by decide +kernel
end
section
theorem dN_take_36 : decode bN_take 36 = .ok (.bipush 13, 2) := by decide +kernel
theorem dN_take_38 : decode bN_take 38 = .ok (.if_icmp .ge 52, 3) := by decide +kernel
theorem dN_take_41 : decode bN_take 41 = .ok (.aload_n 0, 1) := by decide +kernel
theorem dN_take_42 : decode bN_take 42 = .ok (.getfield 20, 3) := by decide +kernel
theorem dN_take_45 : decode bN_take 45 = .ok (.bipush 13, 2) := by decide +kernel
theorem dN_take_47 : decode bN_take 47 = .ok (.aload_n 0, 1) := by decide +kernel
theorem dN_take_48 : decode bN_take 48 = .ok (.getfield 111, 3) := by decide +kernel
theorem dN_take_51 : decode bN_take 51 = .ok (.imul, 1) := by decide +kernel
theorem dN_take_52 : decode bN_take 52 = .ok (.iload_n 3, 1) := by decide +kernel
theorem dN_take_53 : decode bN_take 53 = .ok (.iadd, 1) := by decide +kernel
theorem dN_take_54 : decode bN_take 54 = .ok (.aload_n 0, 1) := by decide +kernel
theorem dN_take_55 : decode bN_take 55 = .ok (.getfield 9, 3) := by decide +kernel
theorem dN_take_58 : decode bN_take 58 = .ok (.iload_n 3, 1) := by decide +kernel
theorem dN_take_59 : decode bN_take 59 = .ok (.daload, 1) := by decide +kernel
theorem dN_take_60 : decode bN_take 60 = .ok (.dload_n 1, 1) := by decide +kernel
theorem dN_take_61 : decode bN_take 61 = .ok (.dmul, 1) := by decide +kernel
theorem dN_take_62 : decode bN_take 62 = .ok (.dastore, 1) := by decide +kernel
theorem dN_take_63 : decode bN_take 63 = .ok (.aload_n 0, 1) := by decide +kernel
theorem dN_take_64 : decode bN_take 64 = .ok (.getfield 9, 3) := by decide +kernel
theorem dN_take_67 : decode bN_take 67 = .ok (.iload_n 3, 1) := by decide +kernel
theorem dN_take_68 : decode bN_take 68 = .ok (.aload_n 0, 1) := by decide +kernel
theorem dN_take_69 : decode bN_take 69 = .ok (.getfield 9, 3) := by decide +kernel
theorem dN_take_72 : decode bN_take 72 = .ok (.iload_n 3, 1) := by decide +kernel
theorem dN_take_73 : decode bN_take 73 = .ok (.daload, 1) := by decide +kernel
theorem dN_take_74 : decode bN_take 74 = .ok (.aload_n 0, 1) := by decide +kernel
theorem dN_take_75 : decode bN_take 75 = .ok (.getfield 9, 3) := by decide +kernel
theorem dN_take_78 : decode bN_take 78 = .ok (.iload_n 3, 1) := by decide +kernel
theorem dN_take_79 : decode bN_take 79 = .ok (.daload, 1) := by decide +kernel
theorem dN_take_80 : decode bN_take 80 = .ok (.dload_n 1, 1) := by decide +kernel
theorem dN_take_81 : decode bN_take 81 = .ok (.dmul, 1) := by decide +kernel
theorem dN_take_82 : decode bN_take 82 = .ok (.dsub, 1) := by decide +kernel
theorem dN_take_83 : decode bN_take 83 = .ok (.dastore, 1) := by decide +kernel
theorem dN_take_84 : decode bN_take 84 = .ok (.iinc 3 1, 3) := by decide +kernel
theorem dN_take_87 : decode bN_take 87 = .ok (.goto (-52), 3) := by decide +kernel
theorem dN_take_90 : decode bN_take 90 = .ok (.aload_n 0, 1) := by decide +kernel
theorem dN_take_91 : decode bN_take 91 = .ok (.getfield 23, 3) := by decide +kernel
theorem dN_take_94 : decode bN_take 94 = .ok (.aload_n 0, 1) := by decide +kernel
theorem dN_take_95 : decode bN_take 95 = .ok (.getfield 111, 3) := by decide +kernel
theorem dN_take_98 : decode bN_take 98 = .ok (.iconst 0, 1) := by decide +kernel
theorem dN_take_99 : decode bN_take 99 = .ok (.bastore, 1) := by decide +kernel
theorem dN_take_100 : decode bN_take 100 = .ok (.aload_n 0, 1) := by decide +kernel
theorem dN_take_101 : decode bN_take 101 = .ok (.dup, 1) := by decide +kernel
theorem dN_take_102 : decode bN_take 102 = .ok (.getfield 111, 3) := by decide +kernel
theorem dN_take_105 : decode bN_take 105 = .ok (.iconst 1, 1) := by decide +kernel
theorem dN_take_106 : decode bN_take 106 = .ok (.iadd, 1) := by decide +kernel
theorem dN_take_107 : decode bN_take 107 = .ok (.putfield 111, 3) := by decide +kernel
theorem dN_take_110 : decode bN_take 110 = .ok (.aload_n 0, 1) := by decide +kernel
theorem dN_take_111 : decode bN_take 111 = .ok (.getfield 111, 3) := by decide +kernel
theorem dN_take_114 : decode bN_take 114 = .ok (.iconst 1, 1) := by decide +kernel
theorem dN_take_115 : decode bN_take 115 = .ok (.isub, 1) := by decide +kernel
theorem dN_take_116 : decode bN_take 116 = .ok (.ireturn, 1) := by decide +kernel
theorem dN_back_0 : decode bN_back 0 = .ok (.iload_n 1, 1) := by decide +kernel
theorem dN_back_1 : decode bN_back 1 = .ok (.ifCond .lt 34, 3) := by decide +kernel
theorem dN_back_4 : decode bN_back 4 = .ok (.iload_n 1, 1) := by decide +kernel
theorem dN_back_5 : decode bN_back 5 = .ok (.aload_n 0, 1) := by decide +kernel
theorem dN_back_6 : decode bN_back 6 = .ok (.getfield 111, 3) := by decide +kernel
theorem dN_back_9 : decode bN_back 9 = .ok (.if_icmp .ge 26, 3) := by decide +kernel
theorem dN_back_12 : decode bN_back 12 = .ok (.aload_n 0, 1) := by decide +kernel
theorem dN_back_13 : decode bN_back 13 = .ok (.getfield 23, 3) := by decide +kernel
theorem dN_back_16 : decode bN_back 16 = .ok (.iload_n 1, 1) := by decide +kernel
theorem dN_back_17 : decode bN_back 17 = .ok (.baload, 1) := by decide +kernel
theorem dN_back_18 : decode bN_back 18 = .ok (.ifCond .ne 17, 3) := by decide +kernel
theorem dN_back_21 : decode bN_back 21 = .ok (.dload_n 2, 1) := by decide +kernel
theorem dN_back_22 : decode bN_back 22 = .ok (.dconst 0, 1) := by decide +kernel
theorem dN_back_23 : decode bN_back 23 = .ok (.dcmp .l, 1) := by decide +kernel
theorem dN_back_24 : decode bN_back 24 = .ok (.ifCond .lt 11, 3) := by decide +kernel
theorem dN_back_27 : decode bN_back 27 = .ok (.dload_n 2, 1) := by decide +kernel
theorem dN_back_28 : decode bN_back 28 = .ok (.ldc2_w 56, 3) := by decide +kernel
theorem dN_back_31 : decode bN_back 31 = .ok (.dcmp .l, 1) := by decide +kernel
theorem dN_back_32 : decode bN_back 32 = .ok (.ifCond .le 5, 3) := by decide +kernel
theorem dN_back_35 : decode bN_back 35 = .ok (.iconst 0, 1) := by decide +kernel
theorem dN_back_36 : decode bN_back 36 = .ok (.ireturn, 1) := by decide +kernel
theorem dN_back_37 : decode bN_back 37 = .ok (.aload_n 0, 1) := by decide +kernel
theorem dN_back_38 : decode bN_back 38 = .ok (.getfield 20, 3) := by decide +kernel
theorem dN_back_41 : decode bN_back 41 = .ok (.bipush 13, 2) := by decide +kernel
theorem dN_back_43 : decode bN_back 43 = .ok (.iload_n 1, 1) := by decide +kernel
theorem dN_back_44 : decode bN_back 44 = .ok (.imul, 1) := by decide +kernel
theorem dN_back_45 : decode bN_back 45 = .ok (.daload, 1) := by decide +kernel
theorem dN_back_46 : decode bN_back 46 = .ok (.dstore 4, 2) := by decide +kernel
theorem dN_back_48 : decode bN_back 48 = .ok (.aload_n 0, 1) := by decide +kernel
theorem dN_back_49 : decode bN_back 49 = .ok (.getfield 9, 3) := by decide +kernel
theorem dN_back_52 : decode bN_back 52 = .ok (.iconst 0, 1) := by decide +kernel
theorem dN_back_53 : decode bN_back 53 = .ok (.daload, 1) := by decide +kernel
theorem dN_back_54 : decode bN_back 54 = .ok (.dload 4, 2) := by decide +kernel
theorem dN_back_56 : decode bN_back 56 = .ok (.dadd, 1) := by decide +kernel
theorem dN_back_57 : decode bN_back 57 = .ok (.dconst 0, 1) := by decide +kernel
theorem dN_back_58 : decode bN_back 58 = .ok (.dcmp .l, 1) := by decide +kernel
theorem dN_back_59 : decode bN_back 59 = .ok (.ifCond .le 33, 3) := by decide +kernel
theorem dN_back_62 : decode bN_back 62 = .ok (.aload_n 0, 1) := by decide +kernel
theorem dN_back_63 : decode bN_back 63 = .ok (.aload_n 0, 1) := by decide +kernel
theorem dN_back_64 : decode bN_back 64 = .ok (.getfield 62, 3) := by decide +kernel
theorem dN_back_67 : decode bN_back 67 = .ok (.aload_n 0, 1) := by decide +kernel
theorem dN_back_68 : decode bN_back 68 = .ok (.getfield 9, 3) := by decide +kernel
theorem dN_back_71 : decode bN_back 71 = .ok (.iconst 0, 1) := by decide +kernel
theorem dN_back_72 : decode bN_back 72 = .ok (.daload, 1) := by decide +kernel
theorem dN_back_73 : decode bN_back 73 = .ok (.dmul, 1) := by decide +kernel
theorem dN_back_74 : decode bN_back 74 = .ok (.dload_n 2, 1) := by decide +kernel
theorem dN_back_75 : decode bN_back 75 = .ok (.dload 4, 2) := by decide +kernel
theorem dN_back_77 : decode bN_back 77 = .ok (.dmul, 1) := by decide +kernel
theorem dN_back_78 : decode bN_back 78 = .ok (.dadd, 1) := by decide +kernel
theorem dN_back_79 : decode bN_back 79 = .ok (.aload_n 0, 1) := by decide +kernel
theorem dN_back_80 : decode bN_back 80 = .ok (.getfield 9, 3) := by decide +kernel
theorem dN_back_83 : decode bN_back 83 = .ok (.iconst 0, 1) := by decide +kernel
theorem dN_back_84 : decode bN_back 84 = .ok (.daload, 1) := by decide +kernel
theorem dN_back_85 : decode bN_back 85 = .ok (.dload 4, 2) := by decide +kernel
theorem dN_back_87 : decode bN_back 87 = .ok (.dadd, 1) := by decide +kernel
theorem dN_back_88 : decode bN_back 88 = .ok (.ddiv, 1) := by decide +kernel
theorem dN_back_89 : decode bN_back 89 = .ok (.putfield 62, 3) := by decide +kernel
theorem dN_back_92 : decode bN_back 92 = .ok (.iconst 0, 1) := by decide +kernel
theorem dN_back_93 : decode bN_back 93 = .ok (.istore 6, 2) := by decide +kernel
theorem dN_back_95 : decode bN_back 95 = .ok (.iload 6, 2) := by decide +kernel
theorem dN_back_97 : decode bN_back 97 = .ok (.bipush 13, 2) := by decide +kernel
theorem dN_back_99 : decode bN_back 99 = .ok (.if_icmp .ge 36, 3) := by decide +kernel
theorem dN_back_102 : decode bN_back 102 = .ok (.aload_n 0, 1) := by decide +kernel
theorem dN_back_103 : decode bN_back 103 = .ok (.getfield 9, 3) := by decide +kernel
theorem dN_back_106 : decode bN_back 106 = .ok (.iload 6, 2) := by decide +kernel
theorem dN_back_108 : decode bN_back 108 = .ok (.aload_n 0, 1) := by decide +kernel
theorem dN_back_109 : decode bN_back 109 = .ok (.getfield 9, 3) := by decide +kernel
theorem dN_back_112 : decode bN_back 112 = .ok (.iload 6, 2) := by decide +kernel
theorem dN_back_114 : decode bN_back 114 = .ok (.daload, 1) := by decide +kernel
theorem dN_back_115 : decode bN_back 115 = .ok (.aload_n 0, 1) := by decide +kernel
theorem dN_back_116 : decode bN_back 116 = .ok (.getfield 20, 3) := by decide +kernel
theorem dN_back_119 : decode bN_back 119 = .ok (.bipush 13, 2) := by decide +kernel
theorem dN_back_121 : decode bN_back 121 = .ok (.iload_n 1, 1) := by decide +kernel
theorem dN_back_122 : decode bN_back 122 = .ok (.imul, 1) := by decide +kernel
theorem dN_back_123 : decode bN_back 123 = .ok (.iload 6, 2) := by decide +kernel
theorem dN_back_125 : decode bN_back 125 = .ok (.iadd, 1) := by decide +kernel
theorem dN_back_126 : decode bN_back 126 = .ok (.daload, 1) := by decide +kernel
theorem dN_back_127 : decode bN_back 127 = .ok (.dadd, 1) := by decide +kernel
theorem dN_back_128 : decode bN_back 128 = .ok (.dastore, 1) := by decide +kernel
theorem dN_back_129 : decode bN_back 129 = .ok (.iinc 6 1, 3) := by decide +kernel
theorem dN_back_132 : decode bN_back 132 = .ok (.goto (-37), 3) := by decide +kernel
theorem dN_back_135 : decode bN_back 135 = .ok (.aload_n 0, 1) := by decide +kernel
theorem dN_back_136 : decode bN_back 136 = .ok (.getfield 23, 3) := by decide +kernel
theorem dN_back_139 : decode bN_back 139 = .ok (.iload_n 1, 1) := by decide +kernel
theorem dN_back_140 : decode bN_back 140 = .ok (.iconst 1, 1) := by decide +kernel
theorem dN_back_141 : decode bN_back 141 = .ok (.bastore, 1) := by decide +kernel
theorem dN_back_142 : decode bN_back 142 = .ok (.iconst 1, 1) := by decide +kernel
theorem dN_back_143 : decode bN_back 143 = .ok (.ireturn, 1) := by decide +kernel
theorem dN_water_0 : decode bN_water 0 = .ok (.aload_n 0, 1) := by decide +kernel
theorem dN_water_1 : decode bN_water 1 = .ok (.getfield 9, 3) := by decide +kernel
theorem dN_water_4 : decode bN_water 4 = .ok (.iconst 0, 1) := by decide +kernel
theorem dN_water_5 : decode bN_water 5 = .ok (.daload, 1) := by decide +kernel
theorem dN_water_6 : decode bN_water 6 = .ok (.dreturn, 1) := by decide +kernel
theorem dN_converted_0 : decode bN_converted 0 = .ok (.aload_n 0, 1) := by decide +kernel
theorem dN_converted_1 : decode bN_converted 1 = .ok (.invokevirtual 101, 3) := by decide +kernel
theorem dN_converted_4 : decode bN_converted 4 = .ok (.ifCond .ne 32, 3) := by decide +kernel
theorem dN_converted_7 : decode bN_converted 7 = .ok (.ldc2_w 114, 3) := by decide +kernel
theorem dN_converted_10 : decode bN_converted 10 = .ok (.aload_n 0, 1) := by decide +kernel
theorem dN_converted_11 : decode bN_converted 11 = .ok (.getfield 9, 3) := by decide +kernel
theorem dN_converted_14 : decode bN_converted 14 = .ok (.iconst 1, 1) := by decide +kernel
theorem dN_converted_15 : decode bN_converted 15 = .ok (.daload, 1) := by decide +kernel
theorem dN_converted_16 : decode bN_converted 16 = .ok (.aload_n 0, 1) := by decide +kernel
theorem dN_converted_17 : decode bN_converted 17 = .ok (.getfield 9, 3) := by decide +kernel
theorem dN_converted_20 : decode bN_converted 20 = .ok (.iconst 2, 1) := by decide +kernel
theorem dN_converted_21 : decode bN_converted 21 = .ok (.daload, 1) := by decide +kernel
theorem dN_converted_22 : decode bN_converted 22 = .ok (.dadd, 1) := by decide +kernel
theorem dN_converted_23 : decode bN_converted 23 = .ok (.dmul, 1) := by decide +kernel
theorem dN_converted_24 : decode bN_converted 24 = .ok (.aload_n 0, 1) := by decide +kernel
theorem dN_converted_25 : decode bN_converted 25 = .ok (.getfield 32, 3) := by decide +kernel
theorem dN_converted_28 : decode bN_converted 28 = .ok (.dcmp .g, 1) := by decide +kernel
theorem dN_converted_29 : decode bN_converted 29 = .ok (.ifCond .gt 7, 3) := by decide +kernel
theorem dN_converted_32 : decode bN_converted 32 = .ok (.iconst 1, 1) := by decide +kernel
theorem dN_converted_33 : decode bN_converted 33 = .ok (.goto 4, 3) := by decide +kernel
theorem dN_converted_36 : decode bN_converted 36 = .ok (.iconst 0, 1) := by decide +kernel
theorem dN_converted_37 : decode bN_converted 37 = .ok (.ireturn, 1) := by decide +kernel
theorem dH_init_0 : decode bH_init 0 = .ok (.aload_n 0, 1) := by decide +kernel
theorem dH_init_1 : decode bH_init 1 = .ok (.invokespecial 3, 3) := by decide +kernel
theorem dH_init_4 : decode bH_init 4 = .ok (.aload_n 0, 1) := by decide +kernel
theorem dH_init_5 : decode bH_init 5 = .ok (.bipush 32, 2) := by decide +kernel
theorem dH_init_7 : decode bH_init 7 = .ok (.newarray .int, 2) := by decide +kernel
theorem dH_init_9 : decode bH_init 9 = .ok (.putfield 9, 3) := by decide +kernel
theorem dH_init_12 : decode bH_init 12 = .ok (.aload_n 0, 1) := by decide +kernel
theorem dH_init_13 : decode bH_init 13 = .ok (.bipush 32, 2) := by decide +kernel
theorem dH_init_15 : decode bH_init 15 = .ok (.newarray .double, 2) := by decide +kernel
theorem dH_init_17 : decode bH_init 17 = .ok (.putfield 15, 3) := by decide +kernel
theorem dH_init_20 : decode bH_init 20 = .ok (.return_, 1) := by decide +kernel
theorem dH_append_0 : decode bH_append 0 = .ok (.aload_n 0, 1) := by decide +kernel
theorem dH_append_1 : decode bH_append 1 = .ok (.getfield 19, 3) := by decide +kernel
theorem dH_append_4 : decode bH_append 4 = .ok (.bipush 32, 2) := by decide +kernel
theorem dH_append_6 : decode bH_append 6 = .ok (.if_icmp .ge 25, 3) := by decide +kernel
theorem dH_append_9 : decode bH_append 9 = .ok (.aload_n 0, 1) := by decide +kernel
theorem dH_append_10 : decode bH_append 10 = .ok (.getfield 19, 3) := by decide +kernel
theorem dH_append_13 : decode bH_append 13 = .ok (.ifCond .le 20, 3) := by decide +kernel
theorem dH_append_16 : decode bH_append 16 = .ok (.iload_n 1, 1) := by decide +kernel
theorem dH_append_17 : decode bH_append 17 = .ok (.aload_n 0, 1) := by decide +kernel
theorem dH_append_18 : decode bH_append 18 = .ok (.getfield 9, 3) := by decide +kernel
theorem dH_append_21 : decode bH_append 21 = .ok (.aload_n 0, 1) := by decide +kernel
theorem dH_append_22 : decode bH_append 22 = .ok (.getfield 19, 3) := by decide +kernel
theorem dH_append_25 : decode bH_append 25 = .ok (.iconst 1, 1) := by decide +kernel
theorem dH_append_26 : decode bH_append 26 = .ok (.isub, 1) := by decide +kernel
theorem dH_append_27 : decode bH_append 27 = .ok (.iaload, 1) := by decide +kernel
theorem dH_append_28 : decode bH_append 28 = .ok (.if_icmp .gt 5, 3) := by decide +kernel
theorem dH_append_31 : decode bH_append 31 = .ok (.iconst 0, 1) := by decide +kernel
theorem dH_append_32 : decode bH_append 32 = .ok (.ireturn, 1) := by decide +kernel
theorem dH_append_33 : decode bH_append 33 = .ok (.aload_n 0, 1) := by decide +kernel
theorem dH_append_34 : decode bH_append 34 = .ok (.getfield 9, 3) := by decide +kernel
theorem dH_append_37 : decode bH_append 37 = .ok (.aload_n 0, 1) := by decide +kernel
theorem dH_append_38 : decode bH_append 38 = .ok (.getfield 19, 3) := by decide +kernel
theorem dH_append_41 : decode bH_append 41 = .ok (.iload_n 1, 1) := by decide +kernel
theorem dH_append_42 : decode bH_append 42 = .ok (.iastore, 1) := by decide +kernel
theorem dH_append_43 : decode bH_append 43 = .ok (.aload_n 0, 1) := by decide +kernel
theorem dH_append_44 : decode bH_append 44 = .ok (.getfield 15, 3) := by decide +kernel
theorem dH_append_47 : decode bH_append 47 = .ok (.aload_n 0, 1) := by decide +kernel
theorem dH_append_48 : decode bH_append 48 = .ok (.getfield 19, 3) := by decide +kernel
theorem dH_append_51 : decode bH_append 51 = .ok (.dload_n 2, 1) := by decide +kernel
theorem dH_append_52 : decode bH_append 52 = .ok (.dastore, 1) := by decide +kernel
theorem dH_append_53 : decode bH_append 53 = .ok (.aload_n 0, 1) := by decide +kernel
theorem dH_append_54 : decode bH_append 54 = .ok (.aload_n 0, 1) := by decide +kernel
theorem dH_append_55 : decode bH_append 55 = .ok (.getfield 19, 3) := by decide +kernel
theorem dH_append_58 : decode bH_append 58 = .ok (.iconst 1, 1) := by decide +kernel
theorem dH_append_59 : decode bH_append 59 = .ok (.iadd, 1) := by decide +kernel
theorem dH_append_60 : decode bH_append 60 = .ok (.putfield 19, 3) := by decide +kernel
theorem dH_append_63 : decode bH_append 63 = .ok (.iconst 1, 1) := by decide +kernel
theorem dH_append_64 : decode bH_append 64 = .ok (.ireturn, 1) := by decide +kernel
theorem dH_heated_0 : decode bH_heated 0 = .ok (.aload_n 0, 1) := by decide +kernel
theorem dH_heated_1 : decode bH_heated 1 = .ok (.getfield 23, 3) := by decide +kernel
theorem dH_heated_4 : decode bH_heated 4 = .ok (.aload_n 0, 1) := by decide +kernel
theorem dH_heated_5 : decode bH_heated 5 = .ok (.getfield 19, 3) := by decide +kernel
theorem dH_heated_8 : decode bH_heated 8 = .ok (.if_icmp .ge 29, 3) := by decide +kernel
theorem dH_heated_11 : decode bH_heated 11 = .ok (.aload_n 0, 1) := by decide +kernel
theorem dH_heated_12 : decode bH_heated 12 = .ok (.getfield 9, 3) := by decide +kernel
theorem dH_heated_15 : decode bH_heated 15 = .ok (.aload_n 0, 1) := by decide +kernel
theorem dH_heated_16 : decode bH_heated 16 = .ok (.getfield 23, 3) := by decide +kernel
theorem dH_heated_19 : decode bH_heated 19 = .ok (.iaload, 1) := by decide +kernel
theorem dH_heated_20 : decode bH_heated 20 = .ok (.iload_n 3, 1) := by decide +kernel
theorem dH_heated_21 : decode bH_heated 21 = .ok (.if_icmp .gt 16, 3) := by decide +kernel
theorem dH_heated_24 : decode bH_heated 24 = .ok (.aload_n 0, 1) := by decide +kernel
theorem dH_heated_25 : decode bH_heated 25 = .ok (.aload_n 0, 1) := by decide +kernel
theorem dH_heated_26 : decode bH_heated 26 = .ok (.getfield 23, 3) := by decide +kernel
theorem dH_heated_29 : decode bH_heated 29 = .ok (.iconst 1, 1) := by decide +kernel
theorem dH_heated_30 : decode bH_heated 30 = .ok (.iadd, 1) := by decide +kernel
theorem dH_heated_31 : decode bH_heated 31 = .ok (.putfield 23, 3) := by decide +kernel
theorem dH_heated_34 : decode bH_heated 34 = .ok (.goto (-34), 3) := by decide +kernel
theorem dH_heated_37 : decode bH_heated 37 = .ok (.aload_n 0, 1) := by decide +kernel
theorem dH_heated_38 : decode bH_heated 38 = .ok (.getfield 23, 3) := by decide +kernel
theorem dH_heated_41 : decode bH_heated 41 = .ok (.aload_n 0, 1) := by decide +kernel
theorem dH_heated_42 : decode bH_heated 42 = .ok (.getfield 19, 3) := by decide +kernel
theorem dH_heated_45 : decode bH_heated 45 = .ok (.if_icmp .ge 32, 3) := by decide +kernel
theorem dH_heated_48 : decode bH_heated 48 = .ok (.dload_n 1, 1) := by decide +kernel
theorem dH_heated_49 : decode bH_heated 49 = .ok (.aload_n 0, 1) := by decide +kernel
theorem dH_heated_50 : decode bH_heated 50 = .ok (.getfield 15, 3) := by decide +kernel
theorem dH_heated_53 : decode bH_heated 53 = .ok (.aload_n 0, 1) := by decide +kernel
theorem dH_heated_54 : decode bH_heated 54 = .ok (.getfield 23, 3) := by decide +kernel
theorem dH_heated_57 : decode bH_heated 57 = .ok (.daload, 1) := by decide +kernel
theorem dH_heated_58 : decode bH_heated 58 = .ok (.dload_n 1, 1) := by decide +kernel
theorem dH_heated_59 : decode bH_heated 59 = .ok (.dsub, 1) := by decide +kernel
theorem dH_heated_60 : decode bH_heated 60 = .ok (.aload_n 0, 1) := by decide +kernel
theorem dH_heated_61 : decode bH_heated 61 = .ok (.getfield 9, 3) := by decide +kernel
theorem dH_heated_64 : decode bH_heated 64 = .ok (.aload_n 0, 1) := by decide +kernel
theorem dH_heated_65 : decode bH_heated 65 = .ok (.getfield 23, 3) := by decide +kernel
theorem dH_heated_68 : decode bH_heated 68 = .ok (.iaload, 1) := by decide +kernel
theorem dH_heated_69 : decode bH_heated 69 = .ok (.iload_n 3, 1) := by decide +kernel
theorem dH_heated_70 : decode bH_heated 70 = .ok (.isub, 1) := by decide +kernel
theorem dH_heated_71 : decode bH_heated 71 = .ok (.i2d, 1) := by decide +kernel
theorem dH_heated_72 : decode bH_heated 72 = .ok (.ddiv, 1) := by decide +kernel
theorem dH_heated_73 : decode bH_heated 73 = .ok (.dadd, 1) := by decide +kernel
theorem dH_heated_74 : decode bH_heated 74 = .ok (.goto 4, 3) := by decide +kernel
theorem dH_heated_77 : decode bH_heated 77 = .ok (.dload_n 1, 1) := by decide +kernel
theorem dH_heated_78 : decode bH_heated 78 = .ok (.dreturn, 1) := by decide +kernel
theorem dQ_init_0 : decode bQ_init 0 = .ok (.aload_n 0, 1) := by decide +kernel
theorem dQ_init_1 : decode bQ_init 1 = .ok (.invokespecial 5, 3) := by decide +kernel
theorem dQ_init_4 : decode bQ_init 4 = .ok (.aload_n 0, 1) := by decide +kernel
theorem dQ_init_5 : decode bQ_init 5 = .ok (.bipush 9, 2) := by decide +kernel
theorem dQ_init_7 : decode bQ_init 7 = .ok (.newarray .double, 2) := by decide +kernel
theorem dQ_init_9 : decode bQ_init 9 = .ok (.putfield 11, 3) := by decide +kernel
theorem dQ_init_12 : decode bQ_init 12 = .ok (.aload_n 0, 1) := by decide +kernel
theorem dQ_init_13 : decode bQ_init 13 = .ok (.invokevirtual 15, 3) := by decide +kernel
theorem dQ_init_16 : decode bQ_init 16 = .ok (.return_, 1) := by decide +kernel
theorem dQ_rate_0 : decode bQ_rate 0 = .ok (.aload_n 0, 1) := by decide +kernel
theorem dQ_rate_1 : decode bQ_rate 1 = .ok (.getfield 11, 3) := by decide +kernel
theorem dQ_rate_4 : decode bQ_rate 4 = .ok (.iconst 0, 1) := by decide +kernel
theorem dQ_rate_5 : decode bQ_rate 5 = .ok (.iload_n 1, 1) := by decide +kernel
theorem dQ_rate_6 : decode bQ_rate 6 = .ok (.iadd, 1) := by decide +kernel
theorem dQ_rate_7 : decode bQ_rate 7 = .ok (.daload, 1) := by decide +kernel
theorem dQ_rate_8 : decode bQ_rate 8 = .ok (.dreturn, 1) := by decide +kernel
theorem dQ_decay_0 : decode bQ_decay 0 = .ok (.aload_n 0, 1) := by decide +kernel
theorem dQ_decay_1 : decode bQ_decay 1 = .ok (.getfield 11, 3) := by decide +kernel
theorem dQ_decay_4 : decode bQ_decay 4 = .ok (.iconst 4, 1) := by decide +kernel
theorem dQ_decay_5 : decode bQ_decay 5 = .ok (.iload_n 1, 1) := by decide +kernel
theorem dQ_decay_6 : decode bQ_decay 6 = .ok (.iadd, 1) := by decide +kernel
theorem dQ_decay_7 : decode bQ_decay 7 = .ok (.daload, 1) := by decide +kernel
theorem dQ_decay_8 : decode bQ_decay 8 = .ok (.dreturn, 1) := by decide +kernel
theorem dQ_gelling_0 : decode bQ_gelling 0 = .ok (.aload_n 0, 1) := by decide +kernel
theorem dQ_gelling_1 : decode bQ_gelling 1 = .ok (.getfield 11, 3) := by decide +kernel
theorem dQ_gelling_4 : decode bQ_gelling 4 = .ok (.bipush 8, 2) := by decide +kernel
theorem dQ_gelling_6 : decode bQ_gelling 6 = .ok (.daload, 1) := by decide +kernel
theorem dQ_gelling_7 : decode bQ_gelling 7 = .ok (.dreturn, 1) := by decide +kernel
theorem dQ_moveTo_0 : decode bQ_moveTo 0 = .ok (.dload_n 1, 1) := by decide +kernel
theorem dQ_moveTo_1 : decode bQ_moveTo 1 = .ok (.aload_n 0, 1) := by decide +kernel
theorem dQ_moveTo_2 : decode bQ_moveTo 2 = .ok (.getfield 18, 3) := by decide +kernel
theorem dQ_moveTo_5 : decode bQ_moveTo 5 = .ok (.dcmp .l, 1) := by decide +kernel
theorem dQ_moveTo_6 : decode bQ_moveTo 6 = .ok (.ifCond .eq 12, 3) := by decide +kernel
theorem dQ_moveTo_9 : decode bQ_moveTo 9 = .ok (.aload_n 0, 1) := by decide +kernel
theorem dQ_moveTo_10 : decode bQ_moveTo 10 = .ok (.dload_n 1, 1) := by decide +kernel
theorem dQ_moveTo_11 : decode bQ_moveTo 11 = .ok (.putfield 18, 3) := by decide +kernel
theorem dQ_moveTo_14 : decode bQ_moveTo 14 = .ok (.aload_n 0, 1) := by decide +kernel
theorem dQ_moveTo_15 : decode bQ_moveTo 15 = .ok (.invokevirtual 15, 3) := by decide +kernel
theorem dQ_moveTo_18 : decode bQ_moveTo 18 = .ok (.return_, 1) := by decide +kernel
theorem dQ_reckonValues_0 : decode bQ_reckonValues 0 = .ok (.aload_n 0, 1) := by decide +kernel
theorem dQ_reckonValues_1 : decode bQ_reckonValues 1 = .ok (.invokevirtual 22, 3) := by decide +kernel
theorem dQ_reckonValues_4 : decode bQ_reckonValues 4 = .ok (.istore_n 1, 1) := by decide +kernel
theorem dQ_reckonValues_5 : decode bQ_reckonValues 5 = .ok (.iconst 0, 1) := by decide +kernel
theorem dQ_reckonValues_6 : decode bQ_reckonValues 6 = .ok (.istore_n 2, 1) := by decide +kernel
theorem dQ_reckonValues_7 : decode bQ_reckonValues 7 = .ok (.iload_n 2, 1) := by decide +kernel
theorem dQ_reckonValues_8 : decode bQ_reckonValues 8 = .ok (.bipush 9, 2) := by decide +kernel
theorem dQ_reckonValues_10 : decode bQ_reckonValues 10 = .ok (.if_icmp .ge 21, 3) := by decide +kernel
theorem dQ_reckonValues_13 : decode bQ_reckonValues 13 = .ok (.aload_n 0, 1) := by decide +kernel
theorem dQ_reckonValues_14 : decode bQ_reckonValues 14 = .ok (.getfield 11, 3) := by decide +kernel
theorem dQ_reckonValues_17 : decode bQ_reckonValues 17 = .ok (.iload_n 2, 1) := by decide +kernel
theorem dQ_reckonValues_18 : decode bQ_reckonValues 18 = .ok (.aload_n 0, 1) := by decide +kernel
theorem dQ_reckonValues_19 : decode bQ_reckonValues 19 = .ok (.iload_n 2, 1) := by decide +kernel
theorem dQ_reckonValues_20 : decode bQ_reckonValues 20 = .ok (.iload_n 1, 1) := by decide +kernel
theorem dQ_reckonValues_21 : decode bQ_reckonValues 21 = .ok (.invokevirtual 26, 3) := by decide +kernel
theorem dQ_reckonValues_24 : decode bQ_reckonValues 24 = .ok (.dastore, 1) := by decide +kernel
theorem dQ_reckonValues_25 : decode bQ_reckonValues 25 = .ok (.iinc 2 1, 3) := by decide +kernel
theorem dQ_reckonValues_28 : decode bQ_reckonValues 28 = .ok (.goto (-21), 3) := by decide +kernel
theorem dQ_reckonValues_31 : decode bQ_reckonValues 31 = .ok (.return_, 1) := by decide +kernel
theorem dQ_valueFrom_0 : decode bQ_valueFrom 0 = .ok (.iload_n 2, 1) := by decide +kernel
theorem dQ_valueFrom_1 : decode bQ_valueFrom 1 = .ok (.ifCond .ge 9, 3) := by decide +kernel
theorem dQ_valueFrom_4 : decode bQ_valueFrom 4 = .ok (.iload_n 1, 1) := by decide +kernel
theorem dQ_valueFrom_5 : decode bQ_valueFrom 5 = .ok (.iconst 0, 1) := by decide +kernel
theorem dQ_valueFrom_6 : decode bQ_valueFrom 6 = .ok (.invokestatic 30, 3) := by decide +kernel
theorem dQ_valueFrom_9 : decode bQ_valueFrom 9 = .ok (.dreturn, 1) := by decide +kernel
theorem dQ_valueFrom_10 : decode bQ_valueFrom 10 = .ok (.iload_n 2, 1) := by decide +kernel
theorem dQ_valueFrom_11 : decode bQ_valueFrom 11 = .ok (.bipush 8, 2) := by decide +kernel
theorem dQ_valueFrom_13 : decode bQ_valueFrom 13 = .ok (.if_icmp .ge 12, 3) := by decide +kernel
theorem dQ_valueFrom_16 : decode bQ_valueFrom 16 = .ok (.aload_n 0, 1) := by decide +kernel
theorem dQ_valueFrom_17 : decode bQ_valueFrom 17 = .ok (.iload_n 1, 1) := by decide +kernel
theorem dQ_valueFrom_18 : decode bQ_valueFrom 18 = .ok (.iload_n 2, 1) := by decide +kernel
theorem dQ_valueFrom_19 : decode bQ_valueFrom 19 = .ok (.invokevirtual 33, 3) := by decide +kernel
theorem dQ_valueFrom_22 : decode bQ_valueFrom 22 = .ok (.goto 9, 3) := by decide +kernel
theorem dQ_valueFrom_25 : decode bQ_valueFrom 25 = .ok (.iload_n 1, 1) := by decide +kernel
theorem dQ_valueFrom_26 : decode bQ_valueFrom 26 = .ok (.bipush 8, 2) := by decide +kernel
theorem dQ_valueFrom_28 : decode bQ_valueFrom 28 = .ok (.invokestatic 30, 3) := by decide +kernel
theorem dQ_valueFrom_31 : decode bQ_valueFrom 31 = .ok (.dreturn, 1) := by decide +kernel
theorem dQ_markNotAbove_0 : decode bQ_markNotAbove 0 = .ok (.iconst (-1), 1) := by decide +kernel
theorem dQ_markNotAbove_1 : decode bQ_markNotAbove 1 = .ok (.istore_n 1, 1) := by decide +kernel
theorem dQ_markNotAbove_2 : decode bQ_markNotAbove 2 = .ok (.iload_n 1, 1) := by decide +kernel
theorem dQ_markNotAbove_3 : decode bQ_markNotAbove 3 = .ok (.bipush 8, 2) := by decide +kernel
theorem dQ_markNotAbove_5 : decode bQ_markNotAbove 5 = .ok (.if_icmp .ge 26, 3) := by decide +kernel
theorem dQ_markNotAbove_8 : decode bQ_markNotAbove 8 = .ok (.getstatic 36, 3) := by decide +kernel
theorem dQ_markNotAbove_11 : decode bQ_markNotAbove 11 = .ok (.iload_n 1, 1) := by decide +kernel
theorem dQ_markNotAbove_12 : decode bQ_markNotAbove 12 = .ok (.iconst 1, 1) := by decide +kernel
theorem dQ_markNotAbove_13 : decode bQ_markNotAbove 13 = .ok (.iadd, 1) := by decide +kernel
theorem dQ_markNotAbove_14 : decode bQ_markNotAbove 14 = .ok (.iaload, 1) := by decide +kernel
theorem dQ_markNotAbove_15 : decode bQ_markNotAbove 15 = .ok (.i2d, 1) := by decide +kernel
theorem dQ_markNotAbove_16 : decode bQ_markNotAbove 16 = .ok (.aload_n 0, 1) := by decide +kernel
theorem dQ_markNotAbove_17 : decode bQ_markNotAbove 17 = .ok (.getfield 18, 3) := by decide +kernel
theorem dQ_markNotAbove_20 : decode bQ_markNotAbove 20 = .ok (.dcmp .g, 1) := by decide +kernel
theorem dQ_markNotAbove_21 : decode bQ_markNotAbove 21 = .ok (.ifCond .gt 10, 3) := by decide +kernel
theorem dQ_markNotAbove_24 : decode bQ_markNotAbove 24 = .ok (.iload_n 1, 1) := by decide +kernel
theorem dQ_markNotAbove_25 : decode bQ_markNotAbove 25 = .ok (.iconst 1, 1) := by decide +kernel
theorem dQ_markNotAbove_26 : decode bQ_markNotAbove 26 = .ok (.iadd, 1) := by decide +kernel
theorem dQ_markNotAbove_27 : decode bQ_markNotAbove 27 = .ok (.istore_n 1, 1) := by decide +kernel
theorem dQ_markNotAbove_28 : decode bQ_markNotAbove 28 = .ok (.goto (-26), 3) := by decide +kernel
theorem dQ_markNotAbove_31 : decode bQ_markNotAbove 31 = .ok (.iload_n 1, 1) := by decide +kernel
theorem dQ_markNotAbove_32 : decode bQ_markNotAbove 32 = .ok (.ireturn, 1) := by decide +kernel
theorem dQ_between_0 : decode bQ_between 0 = .ok (.iload_n 1, 1) := by decide +kernel
theorem dQ_between_1 : decode bQ_between 1 = .ok (.iload_n 2, 1) := by decide +kernel
theorem dQ_between_2 : decode bQ_between 2 = .ok (.invokestatic 30, 3) := by decide +kernel
theorem dQ_between_5 : decode bQ_between 5 = .ok (.dstore_n 3, 1) := by decide +kernel
theorem dQ_between_6 : decode bQ_between 6 = .ok (.iload_n 1, 1) := by decide +kernel
theorem dQ_between_7 : decode bQ_between 7 = .ok (.iload_n 2, 1) := by decide +kernel
theorem dQ_between_8 : decode bQ_between 8 = .ok (.iconst 1, 1) := by decide +kernel
theorem dQ_between_9 : decode bQ_between 9 = .ok (.iadd, 1) := by decide +kernel
theorem dQ_between_10 : decode bQ_between 10 = .ok (.invokestatic 30, 3) := by decide +kernel
theorem dQ_between_13 : decode bQ_between 13 = .ok (.dstore 5, 2) := by decide +kernel
theorem dQ_between_15 : decode bQ_between 15 = .ok (.getstatic 36, 3) := by decide +kernel
theorem dQ_between_18 : decode bQ_between 18 = .ok (.iload_n 2, 1) := by decide +kernel
theorem dQ_between_19 : decode bQ_between 19 = .ok (.iaload, 1) := by decide +kernel
theorem dQ_between_20 : decode bQ_between 20 = .ok (.istore 7, 2) := by decide +kernel
theorem dQ_between_22 : decode bQ_between 22 = .ok (.getstatic 36, 3) := by decide +kernel
theorem dQ_between_25 : decode bQ_between 25 = .ok (.iload_n 2, 1) := by decide +kernel
theorem dQ_between_26 : decode bQ_between 26 = .ok (.iconst 1, 1) := by decide +kernel
theorem dQ_between_27 : decode bQ_between 27 = .ok (.iadd, 1) := by decide +kernel
theorem dQ_between_28 : decode bQ_between 28 = .ok (.iaload, 1) := by decide +kernel
theorem dQ_between_29 : decode bQ_between 29 = .ok (.istore 8, 2) := by decide +kernel
theorem dQ_between_31 : decode bQ_between 31 = .ok (.dload_n 3, 1) := by decide +kernel
theorem dQ_between_32 : decode bQ_between 32 = .ok (.dload 5, 2) := by decide +kernel
theorem dQ_between_34 : decode bQ_between 34 = .ok (.dload_n 3, 1) := by decide +kernel
theorem dQ_between_35 : decode bQ_between 35 = .ok (.dsub, 1) := by decide +kernel
theorem dQ_between_36 : decode bQ_between 36 = .ok (.aload_n 0, 1) := by decide +kernel
theorem dQ_between_37 : decode bQ_between 37 = .ok (.getfield 18, 3) := by decide +kernel
theorem dQ_between_40 : decode bQ_between 40 = .ok (.iload 7, 2) := by decide +kernel
theorem dQ_between_42 : decode bQ_between 42 = .ok (.i2d, 1) := by decide +kernel
theorem dQ_between_43 : decode bQ_between 43 = .ok (.dsub, 1) := by decide +kernel
theorem dQ_between_44 : decode bQ_between 44 = .ok (.dmul, 1) := by decide +kernel
theorem dQ_between_45 : decode bQ_between 45 = .ok (.iload 8, 2) := by decide +kernel
theorem dQ_between_47 : decode bQ_between 47 = .ok (.iload 7, 2) := by decide +kernel
theorem dQ_between_49 : decode bQ_between 49 = .ok (.isub, 1) := by decide +kernel
theorem dQ_between_50 : decode bQ_between 50 = .ok (.i2d, 1) := by decide +kernel
theorem dQ_between_51 : decode bQ_between 51 = .ok (.ddiv, 1) := by decide +kernel
theorem dQ_between_52 : decode bQ_between 52 = .ok (.dadd, 1) := by decide +kernel
theorem dQ_between_53 : decode bQ_between 53 = .ok (.dreturn, 1) := by decide +kernel
theorem dQ_atMark_0 : decode bQ_atMark 0 = .ok (.getstatic 40, 3) := by decide +kernel
theorem dQ_atMark_3 : decode bQ_atMark 3 = .ok (.iload_n 0, 1) := by decide +kernel
theorem dQ_atMark_4 : decode bQ_atMark 4 = .ok (.bipush 9, 2) := by decide +kernel
theorem dQ_atMark_6 : decode bQ_atMark 6 = .ok (.imul, 1) := by decide +kernel
theorem dQ_atMark_7 : decode bQ_atMark 7 = .ok (.iload_n 1, 1) := by decide +kernel
theorem dQ_atMark_8 : decode bQ_atMark 8 = .ok (.iadd, 1) := by decide +kernel
theorem dQ_atMark_9 : decode bQ_atMark 9 = .ok (.iaload, 1) := by decide +kernel
theorem dQ_atMark_10 : decode bQ_atMark 10 = .ok (.i2d, 1) := by decide +kernel
theorem dQ_atMark_11 : decode bQ_atMark 11 = .ok (.iload_n 0, 1) := by decide +kernel
theorem dQ_atMark_12 : decode bQ_atMark 12 = .ok (.iconst 4, 1) := by decide +kernel
theorem dQ_atMark_13 : decode bQ_atMark 13 = .ok (.if_icmp .ge 9, 3) := by decide +kernel
theorem dQ_atMark_16 : decode bQ_atMark 16 = .ok (.ldc2_w 43, 3) := by decide +kernel
theorem dQ_atMark_19 : decode bQ_atMark 19 = .ok (.goto 6, 3) := by decide +kernel
theorem dQ_atMark_22 : decode bQ_atMark 22 = .ok (.ldc2_w 45, 3) := by decide +kernel
theorem dQ_atMark_25 : decode bQ_atMark 25 = .ok (.ddiv, 1) := by decide +kernel
theorem dQ_atMark_26 : decode bQ_atMark 26 = .ok (.dreturn, 1) := by decide +kernel
theorem dL_law_0 : decode code 0 = .ok (.new 7, 3) := by decide +kernel
theorem dL_law_3 : decode code 3 = .ok (.dup, 1) := by decide +kernel
theorem dL_law_4 : decode code 4 = .ok (.invokespecial 9, 3) := by decide +kernel
theorem dL_law_7 : decode code 7 = .ok (.astore_n 1, 1) := by decide +kernel
theorem dL_law_8 : decode code 8 = .ok (.new 10, 3) := by decide +kernel
theorem dL_law_11 : decode code 11 = .ok (.dup, 1) := by decide +kernel
theorem dL_law_12 : decode code 12 = .ok (.invokespecial 12, 3) := by decide +kernel
theorem dL_law_15 : decode code 15 = .ok (.astore_n 2, 1) := by decide +kernel
theorem dL_law_16 : decode code 16 = .ok (.iconst 0, 1) := by decide +kernel
theorem dL_law_17 : decode code 17 = .ok (.istore_n 3, 1) := by decide +kernel
theorem dL_law_18 : decode code 18 = .ok (.iload_n 3, 1) := by decide +kernel
theorem dL_law_19 : decode code 19 = .ok (.aload_n 0, 1) := by decide +kernel
theorem dL_law_20 : decode code 20 = .ok (.arraylength, 1) := by decide +kernel
theorem dL_law_21 : decode code 21 = .ok (.iconst 4, 1) := by decide +kernel
theorem dL_law_22 : decode code 22 = .ok (.isub, 1) := by decide +kernel
theorem dL_law_23 : decode code 23 = .ok (.if_icmp .gt 642, 3) := by decide +kernel
theorem dL_law_26 : decode code 26 = .ok (.aload_n 0, 1) := by decide +kernel
theorem dL_law_27 : decode code 27 = .ok (.iload_n 3, 1) := by decide +kernel
theorem dL_law_28 : decode code 28 = .ok (.iaload, 1) := by decide +kernel
theorem dL_law_29 : decode code 29 = .ok (.bipush 15, 2) := by decide +kernel
theorem dL_law_31 : decode code 31 = .ok (.iand, 1) := by decide +kernel
theorem dL_law_32 : decode code 32 = .ok (.tableswitch 627 0 12 #[68, 131, 204, 247, 290, 313, 364, 405, 456, 497, 530, 573, 614], 68) := by decide +kernel
theorem dL_law_100 : decode code 100 = .ok (.aload_n 1, 1) := by decide +kernel
theorem dL_law_101 : decode code 101 = .ok (.aload_n 0, 1) := by decide +kernel
theorem dL_law_102 : decode code 102 = .ok (.iload_n 3, 1) := by decide +kernel
theorem dL_law_103 : decode code 103 = .ok (.iconst 1, 1) := by decide +kernel
theorem dL_law_104 : decode code 104 = .ok (.iadd, 1) := by decide +kernel
theorem dL_law_105 : decode code 105 = .ok (.iaload, 1) := by decide +kernel
theorem dL_law_106 : decode code 106 = .ok (.i2d, 1) := by decide +kernel
theorem dL_law_107 : decode code 107 = .ok (.ldc2_w 13, 3) := by decide +kernel
theorem dL_law_110 : decode code 110 = .ok (.dmul, 1) := by decide +kernel
theorem dL_law_111 : decode code 111 = .ok (.aload_n 0, 1) := by decide +kernel
theorem dL_law_112 : decode code 112 = .ok (.iload_n 3, 1) := by decide +kernel
theorem dL_law_113 : decode code 113 = .ok (.iconst 2, 1) := by decide +kernel
theorem dL_law_114 : decode code 114 = .ok (.iadd, 1) := by decide +kernel
theorem dL_law_115 : decode code 115 = .ok (.iaload, 1) := by decide +kernel
theorem dL_law_116 : decode code 116 = .ok (.i2d, 1) := by decide +kernel
theorem dL_law_117 : decode code 117 = .ok (.ldc2_w 13, 3) := by decide +kernel
theorem dL_law_120 : decode code 120 = .ok (.dmul, 1) := by decide +kernel
end
section
theorem dL_law_121 : decode code 121 = .ok (.aload_n 0, 1) := by decide +kernel
theorem dL_law_122 : decode code 122 = .ok (.iload_n 3, 1) := by decide +kernel
theorem dL_law_123 : decode code 123 = .ok (.iconst 3, 1) := by decide +kernel
theorem dL_law_124 : decode code 124 = .ok (.iadd, 1) := by decide +kernel
theorem dL_law_125 : decode code 125 = .ok (.iaload, 1) := by decide +kernel
theorem dL_law_126 : decode code 126 = .ok (.invokevirtual 15, 3) := by decide +kernel
theorem dL_law_129 : decode code 129 = .ok (.aload_n 2, 1) := by decide +kernel
theorem dL_law_130 : decode code 130 = .ok (.aload_n 0, 1) := by decide +kernel
theorem dL_law_131 : decode code 131 = .ok (.iload_n 3, 1) := by decide +kernel
theorem dL_law_132 : decode code 132 = .ok (.iconst 1, 1) := by decide +kernel
theorem dL_law_133 : decode code 133 = .ok (.iadd, 1) := by decide +kernel
theorem dL_law_134 : decode code 134 = .ok (.iaload, 1) := by decide +kernel
theorem dL_law_135 : decode code 135 = .ok (.i2d, 1) := by decide +kernel
theorem dL_law_136 : decode code 136 = .ok (.ldc2_w 13, 3) := by decide +kernel
theorem dL_law_139 : decode code 139 = .ok (.dmul, 1) := by decide +kernel
theorem dL_law_140 : decode code 140 = .ok (.aload_n 0, 1) := by decide +kernel
theorem dL_law_141 : decode code 141 = .ok (.iload_n 3, 1) := by decide +kernel
theorem dL_law_142 : decode code 142 = .ok (.iconst 2, 1) := by decide +kernel
theorem dL_law_143 : decode code 143 = .ok (.iadd, 1) := by decide +kernel
theorem dL_law_144 : decode code 144 = .ok (.iaload, 1) := by decide +kernel
theorem dL_law_145 : decode code 145 = .ok (.i2d, 1) := by decide +kernel
theorem dL_law_146 : decode code 146 = .ok (.ldc2_w 13, 3) := by decide +kernel
theorem dL_law_149 : decode code 149 = .ok (.dmul, 1) := by decide +kernel
theorem dL_law_150 : decode code 150 = .ok (.aload_n 0, 1) := by decide +kernel
theorem dL_law_151 : decode code 151 = .ok (.iload_n 3, 1) := by decide +kernel
theorem dL_law_152 : decode code 152 = .ok (.iconst 3, 1) := by decide +kernel
theorem dL_law_153 : decode code 153 = .ok (.iadd, 1) := by decide +kernel
theorem dL_law_154 : decode code 154 = .ok (.iaload, 1) := by decide +kernel
theorem dL_law_155 : decode code 155 = .ok (.invokevirtual 19, 3) := by decide +kernel
theorem dL_law_158 : decode code 158 = .ok (.if_icmp .eq 501, 3) := by decide +kernel
theorem dL_law_161 : decode code 161 = .ok (.iconst 0, 1) := by decide +kernel
theorem dL_law_162 : decode code 162 = .ok (.ireturn, 1) := by decide +kernel
theorem dL_law_163 : decode code 163 = .ok (.aload_n 1, 1) := by decide +kernel
theorem dL_law_164 : decode code 164 = .ok (.aload_n 0, 1) := by decide +kernel
theorem dL_law_165 : decode code 165 = .ok (.iload_n 3, 1) := by decide +kernel
theorem dL_law_166 : decode code 166 = .ok (.iconst 1, 1) := by decide +kernel
theorem dL_law_167 : decode code 167 = .ok (.iadd, 1) := by decide +kernel
theorem dL_law_168 : decode code 168 = .ok (.iaload, 1) := by decide +kernel
theorem dL_law_169 : decode code 169 = .ok (.i2d, 1) := by decide +kernel
theorem dL_law_170 : decode code 170 = .ok (.ldc2_w 13, 3) := by decide +kernel
theorem dL_law_173 : decode code 173 = .ok (.dmul, 1) := by decide +kernel
theorem dL_law_174 : decode code 174 = .ok (.aload_n 0, 1) := by decide +kernel
theorem dL_law_175 : decode code 175 = .ok (.iload_n 3, 1) := by decide +kernel
theorem dL_law_176 : decode code 176 = .ok (.iconst 2, 1) := by decide +kernel
theorem dL_law_177 : decode code 177 = .ok (.iadd, 1) := by decide +kernel
theorem dL_law_178 : decode code 178 = .ok (.iaload, 1) := by decide +kernel
theorem dL_law_179 : decode code 179 = .ok (.i2d, 1) := by decide +kernel
theorem dL_law_180 : decode code 180 = .ok (.ldc2_w 13, 3) := by decide +kernel
theorem dL_law_183 : decode code 183 = .ok (.dmul, 1) := by decide +kernel
theorem dL_law_184 : decode code 184 = .ok (.aload_n 0, 1) := by decide +kernel
theorem dL_law_185 : decode code 185 = .ok (.iload_n 3, 1) := by decide +kernel
theorem dL_law_186 : decode code 186 = .ok (.iconst 3, 1) := by decide +kernel
theorem dL_law_187 : decode code 187 = .ok (.iadd, 1) := by decide +kernel
theorem dL_law_188 : decode code 188 = .ok (.iaload, 1) := by decide +kernel
theorem dL_law_189 : decode code 189 = .ok (.i2d, 1) := by decide +kernel
theorem dL_law_190 : decode code 190 = .ok (.ldc2_w 13, 3) := by decide +kernel
theorem dL_law_193 : decode code 193 = .ok (.dmul, 1) := by decide +kernel
theorem dL_law_194 : decode code 194 = .ok (.invokevirtual 20, 3) := by decide +kernel
theorem dL_law_197 : decode code 197 = .ok (.aload_n 2, 1) := by decide +kernel
theorem dL_law_198 : decode code 198 = .ok (.aload_n 0, 1) := by decide +kernel
theorem dL_law_199 : decode code 199 = .ok (.iload_n 3, 1) := by decide +kernel
theorem dL_law_200 : decode code 200 = .ok (.iconst 1, 1) := by decide +kernel
theorem dL_law_201 : decode code 201 = .ok (.iadd, 1) := by decide +kernel
theorem dL_law_202 : decode code 202 = .ok (.iaload, 1) := by decide +kernel
theorem dL_law_203 : decode code 203 = .ok (.i2d, 1) := by decide +kernel
theorem dL_law_204 : decode code 204 = .ok (.ldc2_w 13, 3) := by decide +kernel
theorem dL_law_207 : decode code 207 = .ok (.dmul, 1) := by decide +kernel
theorem dL_law_208 : decode code 208 = .ok (.aload_n 0, 1) := by decide +kernel
theorem dL_law_209 : decode code 209 = .ok (.iload_n 3, 1) := by decide +kernel
theorem dL_law_210 : decode code 210 = .ok (.iconst 2, 1) := by decide +kernel
theorem dL_law_211 : decode code 211 = .ok (.iadd, 1) := by decide +kernel
theorem dL_law_212 : decode code 212 = .ok (.iaload, 1) := by decide +kernel
theorem dL_law_213 : decode code 213 = .ok (.i2d, 1) := by decide +kernel
theorem dL_law_214 : decode code 214 = .ok (.ldc2_w 13, 3) := by decide +kernel
theorem dL_law_217 : decode code 217 = .ok (.dmul, 1) := by decide +kernel
theorem dL_law_218 : decode code 218 = .ok (.aload_n 0, 1) := by decide +kernel
theorem dL_law_219 : decode code 219 = .ok (.iload_n 3, 1) := by decide +kernel
theorem dL_law_220 : decode code 220 = .ok (.iconst 3, 1) := by decide +kernel
theorem dL_law_221 : decode code 221 = .ok (.iadd, 1) := by decide +kernel
theorem dL_law_222 : decode code 222 = .ok (.iaload, 1) := by decide +kernel
theorem dL_law_223 : decode code 223 = .ok (.i2d, 1) := by decide +kernel
theorem dL_law_224 : decode code 224 = .ok (.ldc2_w 13, 3) := by decide +kernel
theorem dL_law_227 : decode code 227 = .ok (.dmul, 1) := by decide +kernel
theorem dL_law_228 : decode code 228 = .ok (.invokevirtual 24, 3) := by decide +kernel
theorem dL_law_231 : decode code 231 = .ok (.if_icmp .eq 428, 3) := by decide +kernel
theorem dL_law_234 : decode code 234 = .ok (.iconst 0, 1) := by decide +kernel
theorem dL_law_235 : decode code 235 = .ok (.ireturn, 1) := by decide +kernel
theorem dL_law_236 : decode code 236 = .ok (.aload_n 1, 1) := by decide +kernel
theorem dL_law_237 : decode code 237 = .ok (.aload_n 0, 1) := by decide +kernel
theorem dL_law_238 : decode code 238 = .ok (.iload_n 3, 1) := by decide +kernel
theorem dL_law_239 : decode code 239 = .ok (.iconst 1, 1) := by decide +kernel
theorem dL_law_240 : decode code 240 = .ok (.iadd, 1) := by decide +kernel
theorem dL_law_241 : decode code 241 = .ok (.iaload, 1) := by decide +kernel
theorem dL_law_242 : decode code 242 = .ok (.aload_n 0, 1) := by decide +kernel
theorem dL_law_243 : decode code 243 = .ok (.iload_n 3, 1) := by decide +kernel
theorem dL_law_244 : decode code 244 = .ok (.iconst 2, 1) := by decide +kernel
theorem dL_law_245 : decode code 245 = .ok (.iadd, 1) := by decide +kernel
theorem dL_law_246 : decode code 246 = .ok (.iaload, 1) := by decide +kernel
theorem dL_law_247 : decode code 247 = .ok (.i2d, 1) := by decide +kernel
theorem dL_law_248 : decode code 248 = .ok (.ldc2_w 13, 3) := by decide +kernel
theorem dL_law_251 : decode code 251 = .ok (.dmul, 1) := by decide +kernel
theorem dL_law_252 : decode code 252 = .ok (.invokevirtual 25, 3) := by decide +kernel
theorem dL_law_255 : decode code 255 = .ok (.aload_n 2, 1) := by decide +kernel
theorem dL_law_256 : decode code 256 = .ok (.aload_n 0, 1) := by decide +kernel
theorem dL_law_257 : decode code 257 = .ok (.iload_n 3, 1) := by decide +kernel
theorem dL_law_258 : decode code 258 = .ok (.iconst 1, 1) := by decide +kernel
theorem dL_law_259 : decode code 259 = .ok (.iadd, 1) := by decide +kernel
theorem dL_law_260 : decode code 260 = .ok (.iaload, 1) := by decide +kernel
theorem dL_law_261 : decode code 261 = .ok (.aload_n 0, 1) := by decide +kernel
theorem dL_law_262 : decode code 262 = .ok (.iload_n 3, 1) := by decide +kernel
theorem dL_law_263 : decode code 263 = .ok (.iconst 2, 1) := by decide +kernel
theorem dL_law_264 : decode code 264 = .ok (.iadd, 1) := by decide +kernel
theorem dL_law_265 : decode code 265 = .ok (.iaload, 1) := by decide +kernel
theorem dL_law_266 : decode code 266 = .ok (.i2d, 1) := by decide +kernel
theorem dL_law_267 : decode code 267 = .ok (.ldc2_w 13, 3) := by decide +kernel
theorem dL_law_270 : decode code 270 = .ok (.dmul, 1) := by decide +kernel
theorem dL_law_271 : decode code 271 = .ok (.invokevirtual 29, 3) := by decide +kernel
theorem dL_law_274 : decode code 274 = .ok (.if_icmp .eq 385, 3) := by decide +kernel
theorem dL_law_277 : decode code 277 = .ok (.iconst 0, 1) := by decide +kernel
theorem dL_law_278 : decode code 278 = .ok (.ireturn, 1) := by decide +kernel
theorem dL_law_279 : decode code 279 = .ok (.aload_n 1, 1) := by decide +kernel
theorem dL_law_280 : decode code 280 = .ok (.aload_n 0, 1) := by decide +kernel
theorem dL_law_281 : decode code 281 = .ok (.iload_n 3, 1) := by decide +kernel
theorem dL_law_282 : decode code 282 = .ok (.iconst 1, 1) := by decide +kernel
theorem dL_law_283 : decode code 283 = .ok (.iadd, 1) := by decide +kernel
theorem dL_law_284 : decode code 284 = .ok (.iaload, 1) := by decide +kernel
theorem dL_law_285 : decode code 285 = .ok (.aload_n 0, 1) := by decide +kernel
theorem dL_law_286 : decode code 286 = .ok (.iload_n 3, 1) := by decide +kernel
theorem dL_law_287 : decode code 287 = .ok (.iconst 2, 1) := by decide +kernel
theorem dL_law_288 : decode code 288 = .ok (.iadd, 1) := by decide +kernel
theorem dL_law_289 : decode code 289 = .ok (.iaload, 1) := by decide +kernel
theorem dL_law_290 : decode code 290 = .ok (.i2d, 1) := by decide +kernel
theorem dL_law_291 : decode code 291 = .ok (.ldc2_w 13, 3) := by decide +kernel
theorem dL_law_294 : decode code 294 = .ok (.dmul, 1) := by decide +kernel
theorem dL_law_295 : decode code 295 = .ok (.invokevirtual 30, 3) := by decide +kernel
theorem dL_law_298 : decode code 298 = .ok (.aload_n 2, 1) := by decide +kernel
theorem dL_law_299 : decode code 299 = .ok (.aload_n 0, 1) := by decide +kernel
theorem dL_law_300 : decode code 300 = .ok (.iload_n 3, 1) := by decide +kernel
theorem dL_law_301 : decode code 301 = .ok (.iconst 1, 1) := by decide +kernel
theorem dL_law_302 : decode code 302 = .ok (.iadd, 1) := by decide +kernel
theorem dL_law_303 : decode code 303 = .ok (.iaload, 1) := by decide +kernel
theorem dL_law_304 : decode code 304 = .ok (.aload_n 0, 1) := by decide +kernel
theorem dL_law_305 : decode code 305 = .ok (.iload_n 3, 1) := by decide +kernel
theorem dL_law_306 : decode code 306 = .ok (.iconst 2, 1) := by decide +kernel
theorem dL_law_307 : decode code 307 = .ok (.iadd, 1) := by decide +kernel
theorem dL_law_308 : decode code 308 = .ok (.iaload, 1) := by decide +kernel
theorem dL_law_309 : decode code 309 = .ok (.i2d, 1) := by decide +kernel
theorem dL_law_310 : decode code 310 = .ok (.ldc2_w 13, 3) := by decide +kernel
theorem dL_law_313 : decode code 313 = .ok (.dmul, 1) := by decide +kernel
theorem dL_law_314 : decode code 314 = .ok (.invokevirtual 33, 3) := by decide +kernel
theorem dL_law_317 : decode code 317 = .ok (.if_icmp .eq 342, 3) := by decide +kernel
theorem dL_law_320 : decode code 320 = .ok (.iconst 0, 1) := by decide +kernel
theorem dL_law_321 : decode code 321 = .ok (.ireturn, 1) := by decide +kernel
theorem dL_law_322 : decode code 322 = .ok (.aload_n 1, 1) := by decide +kernel
theorem dL_law_323 : decode code 323 = .ok (.aload_n 0, 1) := by decide +kernel
theorem dL_law_324 : decode code 324 = .ok (.iload_n 3, 1) := by decide +kernel
theorem dL_law_325 : decode code 325 = .ok (.iconst 1, 1) := by decide +kernel
theorem dL_law_326 : decode code 326 = .ok (.iadd, 1) := by decide +kernel
theorem dL_law_327 : decode code 327 = .ok (.iaload, 1) := by decide +kernel
theorem dL_law_328 : decode code 328 = .ok (.invokevirtual 34, 3) := by decide +kernel
theorem dL_law_331 : decode code 331 = .ok (.aload_n 2, 1) := by decide +kernel
theorem dL_law_332 : decode code 332 = .ok (.aload_n 0, 1) := by decide +kernel
theorem dL_law_333 : decode code 333 = .ok (.iload_n 3, 1) := by decide +kernel
theorem dL_law_334 : decode code 334 = .ok (.iconst 1, 1) := by decide +kernel
theorem dL_law_335 : decode code 335 = .ok (.iadd, 1) := by decide +kernel
theorem dL_law_336 : decode code 336 = .ok (.iaload, 1) := by decide +kernel
theorem dL_law_337 : decode code 337 = .ok (.invokevirtual 38, 3) := by decide +kernel
theorem dL_law_340 : decode code 340 = .ok (.if_icmp .eq 319, 3) := by decide +kernel
theorem dL_law_343 : decode code 343 = .ok (.iconst 0, 1) := by decide +kernel
theorem dL_law_344 : decode code 344 = .ok (.ireturn, 1) := by decide +kernel
theorem dL_law_345 : decode code 345 = .ok (.aload_n 1, 1) := by decide +kernel
theorem dL_law_346 : decode code 346 = .ok (.aload_n 0, 1) := by decide +kernel
theorem dL_law_347 : decode code 347 = .ok (.iload_n 3, 1) := by decide +kernel
theorem dL_law_348 : decode code 348 = .ok (.iconst 1, 1) := by decide +kernel
theorem dL_law_349 : decode code 349 = .ok (.iadd, 1) := by decide +kernel
theorem dL_law_350 : decode code 350 = .ok (.iaload, 1) := by decide +kernel
theorem dL_law_351 : decode code 351 = .ok (.invokevirtual 39, 3) := by decide +kernel
theorem dL_law_354 : decode code 354 = .ok (.dstore 4, 2) := by decide +kernel
theorem dL_law_356 : decode code 356 = .ok (.aload_n 2, 1) := by decide +kernel
theorem dL_law_357 : decode code 357 = .ok (.aload_n 0, 1) := by decide +kernel
theorem dL_law_358 : decode code 358 = .ok (.iload_n 3, 1) := by decide +kernel
theorem dL_law_359 : decode code 359 = .ok (.iconst 1, 1) := by decide +kernel
theorem dL_law_360 : decode code 360 = .ok (.iadd, 1) := by decide +kernel
theorem dL_law_361 : decode code 361 = .ok (.iaload, 1) := by decide +kernel
theorem dL_law_362 : decode code 362 = .ok (.invokevirtual 43, 3) := by decide +kernel
theorem dL_law_365 : decode code 365 = .ok (.dstore 6, 2) := by decide +kernel
theorem dL_law_367 : decode code 367 = .ok (.dload 4, 2) := by decide +kernel
theorem dL_law_369 : decode code 369 = .ok (.dload 6, 2) := by decide +kernel
theorem dL_law_371 : decode code 371 = .ok (.dcmp .l, 1) := by decide +kernel
theorem dL_law_372 : decode code 372 = .ok (.ifCond .eq 21, 3) := by decide +kernel
theorem dL_law_375 : decode code 375 = .ok (.dload 4, 2) := by decide +kernel
theorem dL_law_377 : decode code 377 = .ok (.dload 4, 2) := by decide +kernel
theorem dL_law_379 : decode code 379 = .ok (.dcmp .l, 1) := by decide +kernel
theorem dL_law_380 : decode code 380 = .ok (.ifCond .eq 11, 3) := by decide +kernel
theorem dL_law_383 : decode code 383 = .ok (.dload 6, 2) := by decide +kernel
theorem dL_law_385 : decode code 385 = .ok (.dload 6, 2) := by decide +kernel
theorem dL_law_387 : decode code 387 = .ok (.dcmp .l, 1) := by decide +kernel
theorem dL_law_388 : decode code 388 = .ok (.ifCond .ne 5, 3) := by decide +kernel
theorem dL_law_391 : decode code 391 = .ok (.iconst 0, 1) := by decide +kernel
theorem dL_law_392 : decode code 392 = .ok (.ireturn, 1) := by decide +kernel
theorem dL_law_393 : decode code 393 = .ok (.goto 266, 3) := by decide +kernel
theorem dL_law_396 : decode code 396 = .ok (.aload_n 1, 1) := by decide +kernel
theorem dL_law_397 : decode code 397 = .ok (.invokevirtual 44, 3) := by decide +kernel
theorem dL_law_400 : decode code 400 = .ok (.dstore 4, 2) := by decide +kernel
theorem dL_law_402 : decode code 402 = .ok (.aload_n 2, 1) := by decide +kernel
theorem dL_law_403 : decode code 403 = .ok (.invokevirtual 48, 3) := by decide +kernel
theorem dL_law_406 : decode code 406 = .ok (.dstore 6, 2) := by decide +kernel
theorem dL_law_408 : decode code 408 = .ok (.dload 4, 2) := by decide +kernel
theorem dL_law_410 : decode code 410 = .ok (.dload 6, 2) := by decide +kernel
theorem dL_law_412 : decode code 412 = .ok (.dcmp .l, 1) := by decide +kernel
theorem dL_law_413 : decode code 413 = .ok (.ifCond .eq 21, 3) := by decide +kernel
theorem dL_law_416 : decode code 416 = .ok (.dload 4, 2) := by decide +kernel
theorem dL_law_418 : decode code 418 = .ok (.dload 4, 2) := by decide +kernel
theorem dL_law_420 : decode code 420 = .ok (.dcmp .l, 1) := by decide +kernel
theorem dL_law_421 : decode code 421 = .ok (.ifCond .eq 11, 3) := by decide +kernel
theorem dL_law_424 : decode code 424 = .ok (.dload 6, 2) := by decide +kernel
theorem dL_law_426 : decode code 426 = .ok (.dload 6, 2) := by decide +kernel
theorem dL_law_428 : decode code 428 = .ok (.dcmp .l, 1) := by decide +kernel
theorem dL_law_429 : decode code 429 = .ok (.ifCond .ne 5, 3) := by decide +kernel
theorem dL_law_432 : decode code 432 = .ok (.iconst 0, 1) := by decide +kernel
theorem dL_law_433 : decode code 433 = .ok (.ireturn, 1) := by decide +kernel
theorem dL_law_434 : decode code 434 = .ok (.goto 225, 3) := by decide +kernel
theorem dL_law_437 : decode code 437 = .ok (.aload_n 1, 1) := by decide +kernel
theorem dL_law_438 : decode code 438 = .ok (.aload_n 0, 1) := by decide +kernel
theorem dL_law_439 : decode code 439 = .ok (.iload_n 3, 1) := by decide +kernel
theorem dL_law_440 : decode code 440 = .ok (.iconst 1, 1) := by decide +kernel
theorem dL_law_441 : decode code 441 = .ok (.iadd, 1) := by decide +kernel
theorem dL_law_442 : decode code 442 = .ok (.iaload, 1) := by decide +kernel
theorem dL_law_443 : decode code 443 = .ok (.invokevirtual 49, 3) := by decide +kernel
theorem dL_law_446 : decode code 446 = .ok (.dstore 4, 2) := by decide +kernel
theorem dL_law_448 : decode code 448 = .ok (.aload_n 2, 1) := by decide +kernel
theorem dL_law_449 : decode code 449 = .ok (.aload_n 0, 1) := by decide +kernel
theorem dL_law_450 : decode code 450 = .ok (.iload_n 3, 1) := by decide +kernel
theorem dL_law_451 : decode code 451 = .ok (.iconst 1, 1) := by decide +kernel
theorem dL_law_452 : decode code 452 = .ok (.iadd, 1) := by decide +kernel
theorem dL_law_453 : decode code 453 = .ok (.iaload, 1) := by decide +kernel
theorem dL_law_454 : decode code 454 = .ok (.invokevirtual 52, 3) := by decide +kernel
theorem dL_law_457 : decode code 457 = .ok (.dstore 6, 2) := by decide +kernel
theorem dL_law_459 : decode code 459 = .ok (.dload 4, 2) := by decide +kernel
theorem dL_law_461 : decode code 461 = .ok (.dload 6, 2) := by decide +kernel
theorem dL_law_463 : decode code 463 = .ok (.dcmp .l, 1) := by decide +kernel
theorem dL_law_464 : decode code 464 = .ok (.ifCond .eq 21, 3) := by decide +kernel
theorem dL_law_467 : decode code 467 = .ok (.dload 4, 2) := by decide +kernel
theorem dL_law_469 : decode code 469 = .ok (.dload 4, 2) := by decide +kernel
theorem dL_law_471 : decode code 471 = .ok (.dcmp .l, 1) := by decide +kernel
theorem dL_law_472 : decode code 472 = .ok (.ifCond .eq 11, 3) := by decide +kernel
theorem dL_law_475 : decode code 475 = .ok (.dload 6, 2) := by decide +kernel
theorem dL_law_477 : decode code 477 = .ok (.dload 6, 2) := by decide +kernel
theorem dL_law_479 : decode code 479 = .ok (.dcmp .l, 1) := by decide +kernel
theorem dL_law_480 : decode code 480 = .ok (.ifCond .ne 5, 3) := by decide +kernel
theorem dL_law_483 : decode code 483 = .ok (.iconst 0, 1) := by decide +kernel
theorem dL_law_484 : decode code 484 = .ok (.ireturn, 1) := by decide +kernel
theorem dL_law_485 : decode code 485 = .ok (.goto 174, 3) := by decide +kernel
theorem dL_law_488 : decode code 488 = .ok (.aload_n 1, 1) := by decide +kernel
theorem dL_law_489 : decode code 489 = .ok (.invokevirtual 53, 3) := by decide +kernel
theorem dL_law_492 : decode code 492 = .ok (.dstore 4, 2) := by decide +kernel
theorem dL_law_494 : decode code 494 = .ok (.aload_n 2, 1) := by decide +kernel
theorem dL_law_495 : decode code 495 = .ok (.invokevirtual 56, 3) := by decide +kernel
theorem dL_law_498 : decode code 498 = .ok (.dstore 6, 2) := by decide +kernel
theorem dL_law_500 : decode code 500 = .ok (.dload 4, 2) := by decide +kernel
theorem dL_law_502 : decode code 502 = .ok (.dload 6, 2) := by decide +kernel
theorem dL_law_504 : decode code 504 = .ok (.dcmp .l, 1) := by decide +kernel
theorem dL_law_505 : decode code 505 = .ok (.ifCond .eq 21, 3) := by decide +kernel
theorem dL_law_508 : decode code 508 = .ok (.dload 4, 2) := by decide +kernel
theorem dL_law_510 : decode code 510 = .ok (.dload 4, 2) := by decide +kernel
theorem dL_law_512 : decode code 512 = .ok (.dcmp .l, 1) := by decide +kernel
theorem dL_law_513 : decode code 513 = .ok (.ifCond .eq 11, 3) := by decide +kernel
theorem dL_law_516 : decode code 516 = .ok (.dload 6, 2) := by decide +kernel
theorem dL_law_518 : decode code 518 = .ok (.dload 6, 2) := by decide +kernel
theorem dL_law_520 : decode code 520 = .ok (.dcmp .l, 1) := by decide +kernel
theorem dL_law_521 : decode code 521 = .ok (.ifCond .ne 5, 3) := by decide +kernel
theorem dL_law_524 : decode code 524 = .ok (.iconst 0, 1) := by decide +kernel
theorem dL_law_525 : decode code 525 = .ok (.ireturn, 1) := by decide +kernel
theorem dL_law_526 : decode code 526 = .ok (.goto 133, 3) := by decide +kernel
theorem dL_law_529 : decode code 529 = .ok (.aload_n 1, 1) := by decide +kernel
theorem dL_law_530 : decode code 530 = .ok (.aload_n 0, 1) := by decide +kernel
theorem dL_law_531 : decode code 531 = .ok (.iload_n 3, 1) := by decide +kernel
theorem dL_law_532 : decode code 532 = .ok (.iconst 1, 1) := by decide +kernel
theorem dL_law_533 : decode code 533 = .ok (.iadd, 1) := by decide +kernel
theorem dL_law_534 : decode code 534 = .ok (.iaload, 1) := by decide +kernel
theorem dL_law_535 : decode code 535 = .ok (.i2d, 1) := by decide +kernel
theorem dL_law_536 : decode code 536 = .ok (.ldc2_w 13, 3) := by decide +kernel
theorem dL_law_539 : decode code 539 = .ok (.dmul, 1) := by decide +kernel
theorem dL_law_540 : decode code 540 = .ok (.invokevirtual 57, 3) := by decide +kernel
theorem dL_law_543 : decode code 543 = .ok (.aload_n 2, 1) := by decide +kernel
theorem dL_law_544 : decode code 544 = .ok (.aload_n 0, 1) := by decide +kernel
theorem dL_law_545 : decode code 545 = .ok (.iload_n 3, 1) := by decide +kernel
theorem dL_law_546 : decode code 546 = .ok (.iconst 1, 1) := by decide +kernel
theorem dL_law_547 : decode code 547 = .ok (.iadd, 1) := by decide +kernel
theorem dL_law_548 : decode code 548 = .ok (.iaload, 1) := by decide +kernel
theorem dL_law_549 : decode code 549 = .ok (.i2d, 1) := by decide +kernel
theorem dL_law_550 : decode code 550 = .ok (.ldc2_w 13, 3) := by decide +kernel
theorem dL_law_553 : decode code 553 = .ok (.dmul, 1) := by decide +kernel
theorem dL_law_554 : decode code 554 = .ok (.invokevirtual 61, 3) := by decide +kernel
theorem dL_law_557 : decode code 557 = .ok (.if_icmp .eq 102, 3) := by decide +kernel
theorem dL_law_560 : decode code 560 = .ok (.iconst 0, 1) := by decide +kernel
theorem dL_law_561 : decode code 561 = .ok (.ireturn, 1) := by decide +kernel
theorem dL_law_562 : decode code 562 = .ok (.aload_n 1, 1) := by decide +kernel
theorem dL_law_563 : decode code 563 = .ok (.aload_n 0, 1) := by decide +kernel
theorem dL_law_564 : decode code 564 = .ok (.iload_n 3, 1) := by decide +kernel
theorem dL_law_565 : decode code 565 = .ok (.iconst 1, 1) := by decide +kernel
theorem dL_law_566 : decode code 566 = .ok (.iadd, 1) := by decide +kernel
theorem dL_law_567 : decode code 567 = .ok (.iaload, 1) := by decide +kernel
theorem dL_law_568 : decode code 568 = .ok (.aload_n 0, 1) := by decide +kernel
theorem dL_law_569 : decode code 569 = .ok (.iload_n 3, 1) := by decide +kernel
theorem dL_law_570 : decode code 570 = .ok (.iconst 2, 1) := by decide +kernel
theorem dL_law_571 : decode code 571 = .ok (.iadd, 1) := by decide +kernel
theorem dL_law_572 : decode code 572 = .ok (.iaload, 1) := by decide +kernel
theorem dL_law_573 : decode code 573 = .ok (.i2d, 1) := by decide +kernel
theorem dL_law_574 : decode code 574 = .ok (.ldc2_w 13, 3) := by decide +kernel
theorem dL_law_577 : decode code 577 = .ok (.dmul, 1) := by decide +kernel
theorem dL_law_578 : decode code 578 = .ok (.invokevirtual 62, 3) := by decide +kernel
theorem dL_law_581 : decode code 581 = .ok (.aload_n 2, 1) := by decide +kernel
theorem dL_law_582 : decode code 582 = .ok (.aload_n 0, 1) := by decide +kernel
theorem dL_law_583 : decode code 583 = .ok (.iload_n 3, 1) := by decide +kernel
theorem dL_law_584 : decode code 584 = .ok (.iconst 1, 1) := by decide +kernel
theorem dL_law_585 : decode code 585 = .ok (.iadd, 1) := by decide +kernel
theorem dL_law_586 : decode code 586 = .ok (.iaload, 1) := by decide +kernel
theorem dL_law_587 : decode code 587 = .ok (.aload_n 0, 1) := by decide +kernel
theorem dL_law_588 : decode code 588 = .ok (.iload_n 3, 1) := by decide +kernel
theorem dL_law_589 : decode code 589 = .ok (.iconst 2, 1) := by decide +kernel
theorem dL_law_590 : decode code 590 = .ok (.iadd, 1) := by decide +kernel
theorem dL_law_591 : decode code 591 = .ok (.iaload, 1) := by decide +kernel
theorem dL_law_592 : decode code 592 = .ok (.i2d, 1) := by decide +kernel
theorem dL_law_593 : decode code 593 = .ok (.ldc2_w 13, 3) := by decide +kernel
theorem dL_law_596 : decode code 596 = .ok (.dmul, 1) := by decide +kernel
theorem dL_law_597 : decode code 597 = .ok (.invokevirtual 65, 3) := by decide +kernel
theorem dL_law_600 : decode code 600 = .ok (.if_icmp .eq 59, 3) := by decide +kernel
theorem dL_law_603 : decode code 603 = .ok (.iconst 0, 1) := by decide +kernel
theorem dL_law_604 : decode code 604 = .ok (.ireturn, 1) := by decide +kernel
theorem dL_law_605 : decode code 605 = .ok (.aload_n 1, 1) := by decide +kernel
theorem dL_law_606 : decode code 606 = .ok (.invokevirtual 66, 3) := by decide +kernel
theorem dL_law_609 : decode code 609 = .ok (.dstore 4, 2) := by decide +kernel
theorem dL_law_611 : decode code 611 = .ok (.aload_n 2, 1) := by decide +kernel
theorem dL_law_612 : decode code 612 = .ok (.invokevirtual 69, 3) := by decide +kernel
theorem dL_law_615 : decode code 615 = .ok (.dstore 6, 2) := by decide +kernel
theorem dL_law_617 : decode code 617 = .ok (.dload 4, 2) := by decide +kernel
theorem dL_law_619 : decode code 619 = .ok (.dload 6, 2) := by decide +kernel
theorem dL_law_621 : decode code 621 = .ok (.dcmp .l, 1) := by decide +kernel
theorem dL_law_622 : decode code 622 = .ok (.ifCond .eq 21, 3) := by decide +kernel
theorem dL_law_625 : decode code 625 = .ok (.dload 4, 2) := by decide +kernel
theorem dL_law_627 : decode code 627 = .ok (.dload 4, 2) := by decide +kernel
theorem dL_law_629 : decode code 629 = .ok (.dcmp .l, 1) := by decide +kernel
theorem dL_law_630 : decode code 630 = .ok (.ifCond .eq 11, 3) := by decide +kernel
theorem dL_law_633 : decode code 633 = .ok (.dload 6, 2) := by decide +kernel
theorem dL_law_635 : decode code 635 = .ok (.dload 6, 2) := by decide +kernel
theorem dL_law_637 : decode code 637 = .ok (.dcmp .l, 1) := by decide +kernel
theorem dL_law_638 : decode code 638 = .ok (.ifCond .ne 5, 3) := by decide +kernel
theorem dL_law_641 : decode code 641 = .ok (.iconst 0, 1) := by decide +kernel
theorem dL_law_642 : decode code 642 = .ok (.ireturn, 1) := by decide +kernel
theorem dL_law_643 : decode code 643 = .ok (.goto 16, 3) := by decide +kernel
theorem dL_law_646 : decode code 646 = .ok (.aload_n 1, 1) := by decide +kernel
theorem dL_law_647 : decode code 647 = .ok (.invokevirtual 70, 3) := by decide +kernel
theorem dL_law_650 : decode code 650 = .ok (.aload_n 2, 1) := by decide +kernel
theorem dL_law_651 : decode code 651 = .ok (.invokevirtual 74, 3) := by decide +kernel
theorem dL_law_654 : decode code 654 = .ok (.if_icmp .eq 5, 3) := by decide +kernel
theorem dL_law_657 : decode code 657 = .ok (.iconst 0, 1) := by decide +kernel
theorem dL_law_658 : decode code 658 = .ok (.ireturn, 1) := by decide +kernel
theorem dL_law_659 : decode code 659 = .ok (.iinc 3 4, 3) := by decide +kernel
theorem dL_law_662 : decode code 662 = .ok (.goto (-644), 3) := by decide +kernel
theorem dL_law_665 : decode code 665 = .ok (.iconst 1, 1) := by decide +kernel
theorem dL_law_666 : decode code 666 = .ok (.ireturn, 1) := by decide +kernel
end
section
/-! arrays of arrays: a row is read; new double[n][m] -/
section MG
variable {p : Program} {l : Launch} {e : Env} {R : Room} {s : State} {m : MethodId} {args : Array Value} {below : List Frame} {meth : Method} {c : Code} {H : Heap} {locs : List Loc} {cells slots : Nat} {Q : State → Prop}
variable {cc : ByteArray} {pc : Nat} {ls : Array Slot} {rest : List Value} {D : va_G} {cl : List vw_C} {A : Nat → Prop} {a : Nat} {tys : List (ClassId × FieldType)} {ws : va_W} {H0 : Heap}
theorem mg_ald (hexec : p.tables.exec = Jvm.exec) (hb : c.code = cc) (hK : va_K D cl tys s) (hP : va_P D cl ws H) (q0 t0 : Nat) {cA : ClassId} {t : FieldType} {n : Nat} {f : Nat → Option Nat} (ha : ws[q0]? = some (a, .inl (cA, n, .inr (.inr (.inr (.inr f)))))) (ht : tys[t0]? = some (cA, .array t)) {i : Int32} (hin : vp_in i n) (hdg : decode cc pc = .ok (.aaload, 1))
    (kk : W p l e R s m args below meth c H locs cells slots Q (F0 m (pc + 1) ls (va_rf (f i.toNatClampNeg) :: rest))) : W p l e R s m args below meth c H locs cells slots Q (F0 m pc ls (.int i :: .ref a :: rest)) := by
  have hlt : i.toNatClampNeg < n := Nat.not_le.mp fun q => hin (Or.inr q)
  exact W.aald (v := va_rf (f i.toNatClampNeg)) (ty := .array t) hexec hb (hP q0 _ ha) ((hK.2 t0 _ ht).1 n (fun j => va_rf (f j))) rfl (fun q => by cases q) (by show ¬ (i < 0 ∨ (arrV _ _ _).slots.size ≤ _); rw [arrV_size]; exact hin) (by show (arrV _ _ _).slots[_]? = _; rw [arrV_read _ _ hlt]) rfl rfl hdg kk
end MG
/-- the tables' word on arrays of arrays of t -/
def va_AOA (t : FieldType) (U : State) : Prop := (Cond.arrayOver (.array t)).before #[] U = true
theorem va_AOA.of {t : FieldType} {A : Array Value} {U : State} (h : (Cond.arrayOver (.array t)).before A U = true) : va_AOA t U := h
theorem va_AOA.use {t : FieldType} {A : Array Value} {U : State} (h : va_AOA t U) : (Cond.arrayOver (.array t)).before A U = true := h
/-! ===== BEGIN new T[n][m]: the outer array a place, the inner ones among the pooled ===== -/
/-- f, but v at every address of l -/
def vr_up {α : Type} (f : Nat → α) (l : List Nat) (v : α) : Nat → α := fun a => if a ∈ l then v else f a
theorem vr_up_in {α : Type} {f : Nat → α} {l : List Nat} {v : α} {a : Nat} (h : a ∈ l) : vr_up f l v a = v := if_pos h
theorem vr_up_ne {α : Type} {f : Nat → α} {l : List Nat} {v : α} {a : Nat} (h : a ∉ l) : vr_up f l v a = f a := if_neg h
theorem vr_rows {L l : List Nat} {f : Nat → va_E} {e : va_E} (h : ∀ a, a ∈ l → a ∉ L) : va_pl L f ++ l.map (fun a => (a, e)) = va_pl (L ++ l) (vr_up f l e) := by
  unfold va_pl
  rw [List.map_append]
  congr 1
  · apply List.map_congr_left
    intro a ha
    rw [vr_up_ne (fun q => h a q ha)]
  · apply List.map_congr_left
    intro a ha
    rw [vr_up_in ha]
theorem vr_lay {X rows : va_W} {x : Nat × va_E} {pl : va_W} {D : va_G} {cl : List vw_C} {H : Heap} (hP : va_P D cl (((X ++ pl) ++ [x]) ++ rows) H) : va_P D cl ((X ++ [x]) ++ (pl ++ rows)) H := by
  rw [List.append_assoc (X ++ pl)] at hP
  have h := va_P.swap hP
  rw [← List.append_assoc X] at h
  have h2 := va_P.swap h
  rw [List.append_assoc (X ++ [x])] at h2
  exact h2
theorem vr_layD {X rows : va_W} {x : Nat × va_E} {pl : va_W} {A : Nat → Prop} (hD : va_D A (((X ++ pl) ++ [x]) ++ rows)) : va_D A ((X ++ [x]) ++ (pl ++ rows)) := by
  rw [List.append_assoc (X ++ pl)] at hD
  have h := va_D.swap hD
  rw [← List.append_assoc X] at h
  have h2 := va_D.swap h
  rw [List.append_assoc (X ++ [x])] at h2
  exact h2
theorem vr_outer (c : ClassId) (N h0 : Nat) : ∀ i : Nat, Jvm.Free.Multi.outerC c N h0 i = arrV c N (fun j => va_rf (if j < i then some (h0 + 1 + j) else none))
  | 0 => by
    show ({ cls := c, slots := Array.replicate N .null, vm := .none } : Cell) = _
    rw [arrV_new]
    refine congrArg (arrV c N) (funext fun j => ?_)
    simp [va_rf]
  | i + 1 => by
    show (Jvm.Free.Multi.outerC c N h0 i).setSlot i (.ref (h0 + 1 + i)) = _
    rw [vr_outer c N h0 i, arrV_store]
    refine congrArg (arrV c N) (funext fun j => ?_)
    by_cases e : j = i
    · subst e
      simp [updV, va_rf]
    · by_cases h : j < i
      · simp [updV, e, h, Nat.lt_succ_of_lt h]
      · simp [updV, e, h, show ¬ j < i + 1 by omega]
section VGM
variable {p : Program} {l : Launch} {e : Env} {R : Room} {s : State} {m : MethodId} {args : Array Value} {below : List Frame} {meth : Method} {c : Code} {H : Heap} {locs : List Loc} {cells slots : Nat} {Q : State → Prop}
variable {cc : ByteArray} {pc : Nat} {ls : Array Slot} {rest : List Value} {D : va_G} {cl : List vw_C} {A : Nat → Prop} {a : Nat} {tys : List (ClassId × FieldType)} {ws : va_W} {H0 : Heap}
theorem va_mna {X : va_W} {L : List Nat} {f : Nat → va_E} {cc : ByteArray} (hexec : p.tables.exec = Jvm.exec) (hb : c.code = cc) {own : String} {index : Nat} {ty : FieldType} {cy : ClassId} (hown : s.vm.findClass own = some m.cls) (hclink : (Cond.classLink own index ("[" ++ (FieldType.array ty).toString)).before args s = true) (hover : va_AOA ty s) (harr : (Cond.arrayClass ty).before args s = true) (hcy : s.vm.findClass (FieldType.array ty).toString = some cy)
    (hK : va_K D cl tys s) (hP : va_P D cl (X ++ va_pl L f) H) (hD : va_D A (X ++ va_pl L f)) (hS : va_S A H0 H locs) (hA : ∀ q, H0.size ≤ q → A q) {n k : Int32} {N' K' : Nat} {z : vp_A} (hn : ¬ n < 0) (hk : ¬ k < 0) (hN : n.toNatClampNeg = N') (hM : k.toNatClampNeg = K')
    (hb1 : N' * 4 ≤ 536870912) (hb2 : K' * componentBytes ty ≤ 536870912) (hb3 : K' ≤ 536870912) (hdf : fits ty (defaultValue ty) = true) (hdd : (defaultValue ty).isDefault = true) (hcells : cells + (1 + N') ≤ R.cells) (hslots : slots + (N' + N' * K') ≤ R.slots) (hz : ∀ c : ClassId, Jvm.Free.Multi.innerC c K' (defaultValue ty) = vp_cell c z) (hdg : decode cc pc = .ok (.multianewarray index 2, 4))
    (kk : ∀ (q : Nat) (r : Nat → Nat) (cA : ClassId) (H1 : Heap), (∀ i j : Nat, i < N' → j < N' → r i = r j → i = j) → (∀ i : Nat, i < N' → r i ∉ L) → va_K D cl (tys ++ [(cA, .array ty)]) s →
      va_P D cl ((X ++ [(q, .inl (cA, N', .inr (.inr (.inr (.inr (fun i => if i < N' then some (r i) else none))))))]) ++ va_pl (L ++ (List.range N').map r) (vr_up f ((List.range N').map r) (.inl (cy, z)))) H1 → va_D A ((X ++ [(q, .inl (cA, N', .inr (.inr (.inr (.inr (fun i => if i < N' then some (r i) else none))))))]) ++ va_pl (L ++ (List.range N').map r) (vr_up f ((List.range N').map r) (.inl (cy, z)))) → va_S A H0 H1 locs →
      W p l e R s m args below meth c H1 locs (cells + 1 + N') (slots + N' + N' * K') Q (F0 m (pc + 4) ls (.ref q :: rest))) : W p l e R s m args below meth c H locs cells slots Q (F0 m pc ls (.int k :: .int n :: rest)) := by
  subst hN
  subst hM
  intro T hT Xs
  obtain ⟨vm₁, cA, comp, -, fA, fC, hO, -, X', step⟩ := Xs.multianewarray2F hexec hown hclink (va_AOA.use hover) harr (g := F0 m pc ls (.int k :: .int n :: rest)) rfl (by rw [hb]; exact hdg) rfl hn hk hb1 hb2 hb3 hdf hdd hcells hslots
  have ec : some cy = some comp := hcy.symm.trans fC
  cases ec
  generalize hF : Jvm.Free.Multi.fill (T.setVm vm₁) cA cy n.toNatClampNeg k.toNatClampNeg (defaultValue ty) n.toNatClampNeg = F at X' step
  have hTh : (T.setVm vm₁).heap = H := hT
  obtain ⟨f1, f2, -, -⟩ := Jvm.Free.Multi.fill_facts (T.setVm vm₁) cA cy n.toNatClampNeg k.toNatClampNeg (defaultValue ty) n.toNatClampNeg
  rw [hF, hTh] at f1 f2
  have hold : ∀ x : Nat, x < H.size → F.heap[x]? = H[x]? := fun x hx => by
    have := Jvm.Free.Multi.fill_old (T.setVm vm₁) cA cy n.toNatClampNeg k.toNatClampNeg (defaultValue ty) (a := x) (by rw [hTh]; exact hx) n.toNatClampNeg
    rw [hF, hTh] at this
    exact this
  have hrow : ∀ j : Nat, j < n.toNatClampNeg → F.heap[H.size + 1 + j]? = some (vp_cell cy z) := fun j hj => by
    have := Jvm.Free.Multi.fill_inner (T.setVm vm₁) cA cy n.toNatClampNeg k.toNatClampNeg (defaultValue ty) n.toNatClampNeg j hj
    rw [hF, hTh, hz] at this
    exact this
  have hout : Jvm.Free.Multi.outerC cA n.toNatClampNeg H.size n.toNatClampNeg = vp_cell cA (n.toNatClampNeg, .inr (.inr (.inr (.inr (fun i => if i < n.toNatClampNeg then some (H.size + 1 + i) else none))))) := by
    rw [vp_cell_q]
    exact vr_outer cA n.toNatClampNeg H.size n.toNatClampNeg
  rw [hout] at f2
  have hlt : ∀ a, a ∈ L → a < H.size := fun a ha => by
    obtain ⟨k9, hk9⟩ := va_pl_get (X := X) (f := f) ha
    exact (hP k9 _ hk9).lt
  have hnl : ∀ i : Nat, i < n.toNatClampNeg → H.size + 1 + i ∉ L := fun i _ h => by
    have := hlt _ h
    omega
  have hnm : ∀ a, a ∈ (List.range n.toNatClampNeg).map (fun i => H.size + 1 + i) → a ∉ L := fun a ha h => by
    obtain ⟨i, -, rfl⟩ := List.mem_map.mp ha
    have := hlt _ h
    omega
  have hP0 : va_P D cl (X ++ va_pl L f) F.heap := hP.kept (fun k9 x hx => hold x.1 ((hP k9 x hx).lt))
  have hP1 : va_P D cl ((X ++ va_pl L f) ++ [(H.size, .inl (cA, n.toNatClampNeg, .inr (.inr (.inr (.inr (fun i => if i < n.toNatClampNeg then some (H.size + 1 + i) else none))))))]) F.heap := hP0.app (fun k9 x hx => by
    have h0 : k9 < 1 := (List.getElem?_eq_some_iff.mp hx).1
    rw [show k9 = 0 by omega] at hx
    cases hx
    exact f2)
  have hP2 : va_P D cl (((X ++ va_pl L f) ++ [(H.size, .inl (cA, n.toNatClampNeg, .inr (.inr (.inr (.inr (fun i => if i < n.toNatClampNeg then some (H.size + 1 + i) else none))))))]) ++ ((List.range n.toNatClampNeg).map (fun i => H.size + 1 + i)).map (fun a => (a, .inl (cy, z)))) F.heap := hP1.app (fun k9 x hx => by
    obtain ⟨a, ha, rfl⟩ := List.mem_map.mp (List.mem_of_getElem? hx)
    obtain ⟨i, hi, rfl⟩ := List.mem_map.mp ha
    exact hrow i (List.mem_range.mp hi))
  have hD2 : va_D A (((X ++ va_pl L f) ++ [(H.size, .inl (cA, n.toNatClampNeg, .inr (.inr (.inr (.inr (fun i => if i < n.toNatClampNeg then some (H.size + 1 + i) else none))))))]) ++ ((List.range n.toNatClampNeg).map (fun i => H.size + 1 + i)).map (fun a => (a, .inl (cy, z)))) := by
    have hD1 := hD.push (e := .inl (cA, n.toNatClampNeg, .inr (.inr (.inr (.inr (fun i => if i < n.toNatClampNeg then some (H.size + 1 + i) else none)))))) hP rfl (hA _ hS.1)
    generalize hW1 : (X ++ va_pl L f) ++ [(H.size, .inl (cA, n.toNatClampNeg, .inr (.inr (.inr (.inr (fun i => if i < n.toNatClampNeg then some (H.size + 1 + i) else none))))))] = W1 at hD1 hP1 ⊢
    have hle : ∀ (k9 : Nat) (x : Nat × va_E), W1[k9]? = some x → x.1 ≤ H.size := fun k9 x hx => by
      rw [← hW1] at hx
      by_cases hl : k9 < (X ++ va_pl L f).length
      · rw [List.getElem?_append_left hl] at hx
        exact Nat.le_of_lt ((hP k9 x hx).lt)
      · rw [List.getElem?_append_right (by omega)] at hx
        have h0 : k9 - (X ++ va_pl L f).length < 1 := (List.getElem?_eq_some_iff.mp hx).1
        rw [show k9 - (X ++ va_pl L f).length = 0 by omega] at hx
        cases hx
        exact Nat.le_refl _
    have hr : ∀ (k9 : Nat) (x : Nat × va_E), (((List.range n.toNatClampNeg).map (fun i => H.size + 1 + i)).map (fun a => ((a, .inl (cy, z)) : Nat × va_E)))[k9]? = some x → x.1 = H.size + 1 + k9 := fun k9 x hx => by
      rw [List.getElem?_map, List.getElem?_map] at hx
      by_cases h9 : k9 < n.toNatClampNeg
      · rw [List.getElem?_range h9] at hx
        cases hx
        rfl
      · have hn0 : (List.range n.toNatClampNeg)[k9]? = none := List.getElem?_eq_none (by rw [List.length_range]; omega)
        rw [hn0] at hx
        cases hx
    refine ⟨fun i j x y hi hj hxy => ?_, fun k9 x hx => ?_⟩
    · by_cases h1 : i < W1.length <;> by_cases h2 : j < W1.length
      · rw [List.getElem?_append_left h1] at hi
        rw [List.getElem?_append_left h2] at hj
        exact hD1.1 i j x y hi hj hxy
      · rw [List.getElem?_append_left h1] at hi
        rw [List.getElem?_append_right (by omega)] at hj
        have := hle _ _ hi
        have := hr _ _ hj
        omega
      · rw [List.getElem?_append_right (by omega)] at hi
        rw [List.getElem?_append_left h2] at hj
        have := hle _ _ hj
        have := hr _ _ hi
        omega
      · rw [List.getElem?_append_right (by omega)] at hi hj
        have := hr _ _ hi
        have := hr _ _ hj
        omega
    · by_cases h1 : k9 < W1.length
      · rw [List.getElem?_append_left h1] at hx
        exact hD1.2 k9 x hx
      · rw [List.getElem?_append_right (by omega)] at hx
        have := hr _ _ hx
        exact hA _ (by have := hS.1; omega)
  have hAr : ArrOfT s cA (.array ty) := fun N9 z9 => by
    obtain ⟨-, k9, hk9, cm9, hkk9⟩ := (hO 0 0 0).1
    exact ⟨(fun q hq => by cases hq), k9, hk9, cm9, hkk9⟩
  have hK2 : va_K D cl (tys ++ [(cA, .array ty)]) s := ⟨hK.1, fun k9 x hx => by
    by_cases hl : k9 < tys.length
    · rw [List.getElem?_append_left hl] at hx
      exact hK.2 k9 x hx
    · rw [List.getElem?_append_right (by omega)] at hx
      have h0 : k9 - tys.length < 1 := (List.getElem?_eq_some_iff.mp hx).1
      rw [show k9 - tys.length = 0 by omega] at hx
      cases hx
      exact ⟨hAr, fA⟩⟩
  obtain ⟨t, a1, b1⟩ := kk H.size (fun i => H.size + 1 + i) cA F.heap (fun i j _ _ h => by have h9 : H.size + 1 + i = H.size + 1 + j := h; omega) hnl hK2 (by rw [← vr_rows hnm]; exact vr_lay hP2) (by rw [← vr_rows hnm]; exact vr_layD hD2) ⟨by rw [f1]; have := hS.1; omega, fun x h1 h2 => (hold x (Nat.lt_of_lt_of_le h1 hS.1)).trans (hS.2.1 x h1 h2), hS.2.2⟩ F rfl X'
  refine ⟨t, step t ?_, b1⟩
  have e : T.heap.size = H.size := by rw [hT]
  rw [e]
  exact a1
end VGM
/-! ===== END ===== -/
end
section
/-! the given tables, the worlds, one form of contract for all methods -/
def tb_GP (j : Nat) : Nat := [2, 1, 3].getD j 0
def tb_GE (j : Nat) : Nat := [8, 6, 2, 4, 0, 0, 0, 0, 4, 3, 1, 2].getD j 0
def tb_MD (j : Nat) : Nat := [0, 40, 50, 60, 65, 70, 75, 80, 90].getD j 0
def tb_TB (j : Nat) : Nat := [0, 1, 2, 4, 6, 8, 7, 4, 0, 0, 2, 4, 8, 7, 3, 1, 0, 0, 0, 2, 6, 8, 4, 1, 0, 0, 0, 0, 4, 8, 6, 3, 1, 0, 0, 0, 0, 0, 0, 0, 1, 4, 16, 64, 255, 0, 0, 0, 4, 16, 64, 128, 200, 255, 0, 0, 1, 16, 64, 128, 200, 255, 255, 0, 0, 4, 32, 64, 128, 200, 255, 255, 0, 0, 2, 16, 64, 128, 160, 200, 255].getD j 0
def tb_RW (j : Nat) : Nat := [0, 1, 2, 4, 6, 8, 7, 4, 0, 0, 2, 4, 8, 7, 3, 1, 0, 0, 0, 2, 6, 8, 4, 1, 0, 0, 0, 0, 4, 8, 6, 3, 1, 0, 0, 0, 0, 0, 2, 16, 64, 128, 160, 200, 255, 0, 0, 0, 0, 1, 4, 16, 64, 255, 0, 0, 0, 4, 16, 64, 128, 200, 255, 0, 0, 1, 16, 64, 128, 200, 255, 255, 0, 0, 4, 32, 64, 128, 200, 255, 255].getD j 0
/-- a table, given at the start -/
def sT1 (C n : String) (t N : Nat) (f : Nat → Nat) (A : Nat → Prop) (U : State) (H : Heap) : Prop := va_Z C n "[I" (.ref t) A U H ∧ va_T .int t N (fun j => .int (nI (f j))) A U H
def sT (tt : Nat → Nat) (A : Nat → Prop) (U : State) (H : Heap) : Prop :=
  sT1 "MashEnzymes" "GRAIN_PROTEIN" (tt 0) 3 tb_GP A U H ∧ sT1 "MashEnzymes" "GRAIN_ENZYMES" (tt 1) 12 tb_GE A U H ∧ sT1 "MashEnzymes$Rows" "MARK_DEGREES" (tt 2) 9 tb_MD A U H ∧ sT1 "MashEnzymes$Rows" "TABLE" (tt 3) 81 tb_TB A U H ∧ sT1 "MashEnzymesModel" "AT" (tt 4) 9 tb_MD A U H ∧ sT1 "MashEnzymesModel" "ROWS" (tt 5) 81 tb_RW A U H
theorem sT1.to {C n : String} {t N : Nat} {f : Nat → Nat} {A B : Nat → Prop} {u U : State} {H H1 : Heap} (h : sT1 C n t N f A u H) (hvm : u.vm.Alike U.vm) (hq : ∀ a : Nat, a < H.size → ¬ A a → H1[a]? = H[a]?) (hAB : ∀ q, B q → A q) : sT1 C n t N f B U H1 :=
  ⟨((h.1.kept hq).moved hvm).narrow hAB, ((h.2.kept hq).moved hvm).narrow hAB⟩
theorem sT.to {tt : Nat → Nat} {A B : Nat → Prop} {u U : State} {H H1 : Heap} (h : sT tt A u H) (hvm : u.vm.Alike U.vm) (hq : ∀ a : Nat, a < H.size → ¬ A a → H1[a]? = H[a]?) (hAB : ∀ q, B q → A q) : sT tt B U H1 :=
  ⟨h.1.to hvm hq hAB, h.2.1.to hvm hq hAB, h.2.2.1.to hvm hq hAB, h.2.2.2.1.to hvm hq hAB, h.2.2.2.2.1.to hvm hq hAB, h.2.2.2.2.2.to hvm hq hAB⟩
/-- the rows' cells, the heating's, the whole mash's, the reference's -/
abbrev wQ (q0 q1 : Nat) (c : ClassId) (rv : Nat → UInt64) (ra : UInt64) : va_W := [(q0, .inr (2, [.ref q1, .double ra])), (q1, .inl (c, 9, .inr (.inr (.inr (.inl rv)))))]
abbrev tQ (c : ClassId) : List (ClassId × FieldType) := [(c, .double)]
abbrev wH (h0 h1 h2 : Nat) (c1 c2 : ClassId) (hs : Nat → Int32) (ht : Nat → UInt64) (hc hn : Int32) : va_W := [(h0, .inr (1, [.ref h1, .ref h2, .int hc, .int hn])), (h1, .inl (c1, 32, .inl hs)), (h2, .inl (c2, 32, .inr (.inr (.inr (.inl ht)))))]
abbrev tH (c1 c2 : ClassId) : List (ClassId × FieldType) := [(c1, .int), (c2, .double)]
abbrev wM (ad : Nat → Nat) (cA : Nat → ClassId) (a : Nat → UInt64) (dv : Nat → Nat → UInt64) (ib : Nat → Int32) (ac : Nat → UInt64) (hs : Nat → Int32) (ht : Nat → UInt64) (hc hn : Int32) (rv : Nat → UInt64) (ra : UInt64) (dc nw : Int32) (T A ts : UInt64) (g l : Int32) : va_W := [
  (ad 0, .inr (0, [.ref (ad 1), .ref (ad 2), .ref (ad 3), .ref (ad 4), .ref (ad 5), .ref (ad 8), .int dc, .int nw, .double T, .double A, .double ts, .int g, .int l])),
  (ad 1, .inl (cA 0, 13, .inr (.inr (.inr (.inl a))))),
  (ad 2, .inl (cA 1, 8, .inr (.inr (.inr (.inr (fun i => if i < 8 then some (ad (i + 10)) else none)))))),
  (ad 3, .inl (cA 2, 8, .inl ib)),
  (ad 4, .inl (cA 3, 4, .inr (.inr (.inr (.inl ac))))),
  (ad 5, .inr (1, [.ref (ad 6), .ref (ad 7), .int hc, .int hn])),
  (ad 6, .inl (cA 4, 32, .inl hs)),
  (ad 7, .inl (cA 5, 32, .inr (.inr (.inr (.inl ht))))),
  (ad 8, .inr (2, [.ref (ad 9), .double ra])),
  (ad 9, .inl (cA 6, 9, .inr (.inr (.inr (.inl rv))))),
  (ad 10, .inl (cA 7, 13, .inr (.inr (.inr (.inl (dv 0)))))),
  (ad 11, .inl (cA 7, 13, .inr (.inr (.inr (.inl (dv 1)))))),
  (ad 12, .inl (cA 7, 13, .inr (.inr (.inr (.inl (dv 2)))))),
  (ad 13, .inl (cA 7, 13, .inr (.inr (.inr (.inl (dv 3)))))),
  (ad 14, .inl (cA 7, 13, .inr (.inr (.inr (.inl (dv 4)))))),
  (ad 15, .inl (cA 7, 13, .inr (.inr (.inr (.inl (dv 5)))))),
  (ad 16, .inl (cA 7, 13, .inr (.inr (.inr (.inl (dv 6)))))),
  (ad 17, .inl (cA 7, 13, .inr (.inr (.inr (.inl (dv 7))))))]
abbrev tM (cA : Nat → ClassId) : List (ClassId × FieldType) := [(cA 0, .double), (cA 1, .array .double), (cA 2, .boolean), (cA 3, .double), (cA 4, .int), (cA 5, .double), (cA 6, .double), (cA 7, .double)]
abbrev wN (ad : Nat → Nat) (cA : Nat → ClassId) (a : Nat → UInt64) (T A : UInt64) (g l : Int32) (ts : UInt64) (nw st : Int32) (hs : Nat → Int32) (ht : Nat → UInt64) (dc : Int32) (pa : Nat → UInt64) (ib : Nat → Int32) (ac : Nat → UInt64) : va_W := [
  (ad 0, .inr (3, [.ref (ad 1), .double T, .double A, .int g, .int l, .double ts, .int nw, .int st, .ref (ad 2), .ref (ad 3), .int dc, .ref (ad 4), .ref (ad 5), .ref (ad 6)])),
  (ad 1, .inl (cA 0, 13, .inr (.inr (.inr (.inl a))))),
  (ad 2, .inl (cA 1, 32, .inl hs)),
  (ad 3, .inl (cA 2, 32, .inr (.inr (.inr (.inl ht))))),
  (ad 4, .inl (cA 3, 104, .inr (.inr (.inr (.inl pa))))),
  (ad 5, .inl (cA 4, 8, .inl ib)),
  (ad 6, .inl (cA 5, 4, .inr (.inr (.inr (.inl ac)))))]
abbrev tN (cA : Nat → ClassId) : List (ClassId × FieldType) := [(cA 0, .double), (cA 1, .int), (cA 2, .double), (cA 3, .double), (cA 4, .boolean), (cA 5, .double)]
/-- what a method finds -/
def ctP (dC : Nat → ClassId) (dI : Nat → Nat → Nat) (tt : Nat → Nat) (tys : List (ClassId × FieldType)) (w : va_W) (sz : Nat) (U : State) : Prop := U.heap.size = sz ∧ va_P (dC, dI) cls w U.heap ∧ va_K (dC, dI) cls tys U ∧ va_D (fun _ => True) w ∧ sT tt (va_A w sz) U U.heap
/-- what it leaves -/
def ctB (dC : Nat → ClassId) (dI : Nat → Nat → Nat) (tys : List (ClassId × FieldType)) (w : va_W) (A : Nat → Prop) (t : State) : Prop := va_P (dC, dI) cls w t.heap ∧ va_K (dC, dI) cls tys t ∧ va_D A w
abbrev ctQv (dC : Nat → ClassId) (dI : Nat → Nat → Nat) (tys : List (ClassId × FieldType)) (w : va_W) (A : Nat → Prop) := va_Qv (fun _ : Unit => True) (fun _ t => ctB dC dI tys w A t) A
abbrev ctQd (dC : Nat → ClassId) (dI : Nat → Nat → Nat) (tys : List (ClassId × FieldType)) (r : UInt64) (w : va_W) (A : Nat → Prop) := va_Qd (fun x (_ : Unit) => x = r) (fun _ t => ctB dC dI tys w A t) A
abbrev ctQi (dC : Nat → ClassId) (dI : Nat → Nat → Nat) (tys : List (ClassId × FieldType)) (r : Int32) (w : va_W) (A : Nat → Prop) := va_Qi (fun x (_ : Unit) => x = r) (fun _ t => ctB dC dI tys w A t) A
/-- a method's contract: over the words wT, at launch l -/
def Ct (l : Launch) (dC : Nat → ClassId) (dI : Nat → Nat → Nat) (tt : Nat → Nat) (y : MethodName) (b : ByteArray) (n : Nat) (ret : Option FieldType) (rm : Room) (tys : List (ClassId × FieldType)) (av : List Value) (w : va_W) (sz : Nat) (Qc : (Nat → Prop) → Array Value → State → Outcome → State → Prop) : Prop :=
  Met l y (.code y b n ret :: wT) rm (va_Pc av (ctP dC dI tt tys w sz)) (Qc (va_A w sz)) rm.cells rm.slots (va_A w sz)
theorem ct_of {l : Launch} {dC : Nat → ClassId} {dI : Nat → Nat → Nat} {tt : Nat → Nat} {y : MethodName} {b : ByteArray} {n : Nat} {ret : Option FieldType} {rm : Room} {tys : List (ClassId × FieldType)} {av : List Value} {w : va_W} {sz : Nat} {Qc : (Nat → Prop) → Array Value → State → Outcome → State → Prop}
    (hy : plainName y.cls = true) (hlen : (lg_sl av).length ≤ n)
    (body : ∀ (p : Program) (e : Env) (s : State) (m : MethodId) (below : List Frame) (meth : Method) (c : Code) (A : Nat → Prop) (ls : Array Slot), p.tables.exec = Jvm.exec → c.code = b → meth.sig.returnType = ret → (∀ x ∈ wT, x.before av.toArray s = true) → s.vm.findClass y.cls = some m.cls → c.maxLocals = n → meth.locks = false → meth.name = y.name → (∀ q : Nat, s.heap.size ≤ q → A q) → va_S A s.heap s.heap [] → va_P (dC, dI) cls w s.heap → va_K (dC, dI) cls tys s → va_D A w → sT tt A s s.heap → lv_has ls n (lv_args 0 av) →
      W p l e rm s m av.toArray below meth c s.heap [] 0 0 (MQ below (Qc A) av.toArray s rm.cells rm.slots A) (F0 m 0 ls [])) : Ct l dC dI tt y b n ret rm tys av w sz Qc := by
  refine Met.ofW (cc := b) (maxL := n) (ret := ret) hy rfl ?_
  intro p e s m args below meth c s₁ B hml hv
  obtain ⟨rfl, hsz, hP, hK, hD0, hT⟩ := hv
  have hts := atoms_spec (ws := .code y b n ret :: wT) B.pre
  have hown : s.vm.findClass y.cls = some m.cls := findClass_of_methodNamed B.named
  have hin : meth.name = y.name := (name_of_methodNamed B.named B.method).1
  subst hsz
  have hD := hD0.self (sz := s.heap.size)
  have hA : ∀ q : Nat, s.heap.size ≤ q → va_A w s.heap.size q := fun q h => Or.inr h
  have hl := lv_entry av (n := n) hlen
  rw [lg_entry_eq]
  exact body p e s m below meth c (va_A w s.heap.size) _ B.exec B.bytes B.returns (fun x hx => hts x (List.mem_cons_of_mem _ hx)) hown hml B.notSynchronized hin hA va_S.rf hP hK hD hT hl
section CT
variable {p : Program} {l : Launch} {e : Env} {R : Room} {s : State} {m : MethodId} {args : Array Value} {below : List Frame} {meth : Method} {c : Code} {H : Heap} {locs : List Loc} {cells slots : Nat} {Q : State → Prop}
variable {cc : ByteArray} {pc nL : Nat} {ls : Array Slot} {rest As : List Value} {dC : Nat → ClassId} {dI : Nat → Nat → Nat} {tt : Nat → Nat} {A : Nat → Prop} {tys tysc : List (ClassId × FieldType)} {ws wc wr w1 : va_W}
variable {own C : String} {index : Nat} {y : MethodName} {b : ByteArray} {n : Nat} {ret : Option FieldType} {rm : Room} {h : Nat}
/-- a method's end -/
theorem ct_vret (hexec : p.tables.exec = Jvm.exec) (hb : c.code = cc) (hr : meth.sig.returnType = none) (hlocks : meth.locks = false) (hP : va_P (dC, dI) cls ws H) (hK : va_K (dC, dI) cls tys s) (hD : va_D A ws) (hS : va_S A s.heap H locs) (hdg : decode cc pc = .ok (.return_, 1)) :
    W p l e R s m args below meth c H locs cells slots (MQ below (ctQv dC dI tys ws A) args s cells slots A) (F0 m pc ls []) :=
  W.vret hexec hb hr (fun t ht hW => ⟨⟨(), rfl, trivial, by rw [ht]; exact hP, va_K.moved hW.alike hK, hD⟩, hS.F ht⟩) hS.2.2 hdg hlocks
theorem ct_dret {v r : UInt64} (hexec : p.tables.exec = Jvm.exec) (hb : c.code = cc) (hr : meth.sig.returnType = some .double) (hlocks : meth.locks = false) (hP : va_P (dC, dI) cls ws H) (hK : va_K (dC, dI) cls tys s) (hD : va_D A ws) (hS : va_S A s.heap H locs) (hv : v = r) (hdg : decode cc pc = .ok (.dreturn, 1)) :
    W p l e R s m args below meth c H locs cells slots (MQ below (ctQd dC dI tys r ws A) args s cells slots A) (F0 m pc ls [.double v]) :=
  W.dret hexec hb hr (fun t ht hW => ⟨⟨v, (), rfl, hv, by rw [ht]; exact hP, va_K.moved hW.alike hK, hD⟩, hS.F ht⟩) hS.2.2 hdg hlocks
theorem ct_iret {v r : Int32} {ty : FieldType} (hexec : p.tables.exec = Jvm.exec) (hb : c.code = cc) (hr : meth.sig.returnType = some ty) (hn : narrow ty (.int v) = .int v) (hlocks : meth.locks = false) (hP : va_P (dC, dI) cls ws H) (hK : va_K (dC, dI) cls tys s) (hD : va_D A ws) (hS : va_S A s.heap H locs) (hv : v = r) (hdg : decode cc pc = .ok (.ireturn, 1)) :
    W p l e R s m args below meth c H locs cells slots (MQ below (ctQi dC dI tys r ws A) args s cells slots A) (F0 m pc ls [.int v]) :=
  W.zret hexec hb hr hn (fun t ht hW => ⟨⟨v, (), rfl, hv, by rw [ht]; exact hP, va_K.moved hW.alike hK, hD⟩, hS.F ht⟩) hS.2.2 hdg hlocks
theorem ct_blind {w : va_W} {sz : Nat} {av : List Value} : FrameBlind (va_Pc av (ctP dC dI tt tys w sz)) := fun a U g mk q => by
  obtain ⟨q0, q1, qP, qK, qD, qT⟩ := q
  exact ⟨q0, q1, qP, va_K.moved (u := U) (U := U.calling g mk a) (Vm.Alike.refl U.vm) qK, qD, qT.to (U := U.calling g mk a) (Vm.Alike.refl U.vm) (fun _ _ _ => rfl) (fun _ h => h)⟩
/-- what a callee finds at a call -/
theorem ct_pre {isC : List Nat} {tyi : List Nat} (hP : va_P (dC, dI) cls ws H) (hD : va_D A ws) (hK : va_K (dC, dI) cls tys s) (hS : va_S A s.heap H locs) (hA : ∀ q : Nat, s.heap.size ≤ q → A q) (hT : sT tt A s s.heap) (hn : va_nd isC = true) (hC : isC.map (fun i => ws[i]?) = wc.map some) (hKc : tyi.filterMap (fun i => tys[i]?) = tysc) {av : List Value} (U : State) (hU : U.heap = H) (hW : s.WarmedH U.vm) : va_Pc av (ctP dC dI tt tysc wc H.size) av.toArray U := by
  have hF := va_free (wc := wc) hD hS hA isC hC
  have hPc : va_P (dC, dI) cls wc H := by
    intro k q hq
    have h1 : (isC.map (fun i => ws[i]?))[k]? = some (some q) := by rw [hC, List.getElem?_map, hq]; rfl
    rw [List.getElem?_map] at h1
    cases hi : isC[k]? with
    | none => rw [hi] at h1; cases h1
    | some i => rw [hi] at h1; exact hP i q (Option.some.inj h1)
  exact ⟨rfl, by rw [hU], by rw [hU]; exact hPc, va_K.moved hW.alike (hK.sub tyi hKc), (hD.sub isC hn hC).weaken (fun _ _ _ _ => trivial), by rw [hU]; exact hT.to hW.alike hS.2.1 hF⟩
theorem ct_recv {isC : List Nat} {ci : Nat} {q : vw_C} {fs : List Value} (hP : va_P (dC, dI) cls ws H) (hK : va_K (dC, dI) cls tys s) (hC : isC.map (fun i => ws[i]?) = wc.map some) (hc : cls[ci]? = some q) (hw : wc[0]? = some (h, .inr (ci, fs))) : ∃ cell : Cell, H[h]? = some cell ∧ cell.vm.isStatics = false ∧ s.vm.findClass q.1 = some cell.cls := by
  have h1 : (isC.map (fun i => ws[i]?))[0]? = some (some (h, .inr (ci, fs))) := by rw [hC, List.getElem?_map, hw]; rfl
  rw [List.getElem?_map] at h1
  cases hi : isC[0]? with
  | none => rw [hi] at h1; cases h1
  | some i => rw [hi] at h1; exact va_recv hK hP hc (Option.some.inj h1)
theorem ct_cvv (S : CallFix p m c cc nL s args wT own) (hM : Ct l dC dI tt y b n none rm tysc (.ref h :: As) wc H.size (fun A => ctQv dC dI tysc w1 A)) (gw : GoodIn wT (wsV own index C y (.code y b n none :: wT)))
    (hd : y.cls = C ∧ y.cls ≠ "java/lang/invoke/MethodHandle" ∧ y.cls ≠ "java/lang/invoke/VarHandle" ∧ (parseMethodDescriptor y.desc).map (fun d => d.parameters.length) = some As.length) (hR : rm.frames + 1 ≤ R.frames ∧ 8 + (n + 11) + rm.locals ≤ R.locals)
    {ci : Nat} {q : vw_C} {fs : List Value} (hc : cls[ci]? = some q) (hqC : q.1 = C) (hw : wc[0]? = some (h, .inr (ci, fs)))
    (hP : va_P (dC, dI) cls ws H) (hD : va_D A ws) (hK : va_K (dC, dI) cls tys s) (hS : va_S A s.heap H locs) (hA : ∀ q : Nat, s.heap.size ≤ q → A q) (hT : sT tt A s s.heap) (isC isR tyi : List Nat) (hn : va_nd isC = true) (hC : isC.map (fun i => ws[i]?) = wc.map some) (hRr : isR.map (fun i => ws[i]?) = wr.map some) (hnR : va_nd isR = true) (hdis : ∀ i ∈ isR, i ∉ isC) (hKc : tyi.filterMap (fun i => tys[i]?) = tysc)
    (hsize : ls.size = nL) {st : List Value} (hst : st = As.reverse ++ .ref h :: rest) (hrest : (rest.map fun v => v.category).sum ≤ 8) (hdg : decode cc pc = .ok (.invokevirtual index, 3)) (hf : cells + rm.cells ≤ R.cells ∧ slots + rm.slots ≤ R.slots)
    (kk : ∀ (H1 : Heap) (locs1 : List Loc), va_P (dC, dI) cls (wr ++ w1) H1 → va_D A (wr ++ w1) → va_S A s.heap H1 locs1 → W p l e R s m args below meth c H1 locs1 (cells + rm.cells) (slots + rm.slots) Q (F0 m (pc + 3) ls rest)) : W p l e R s m args below meth c H locs cells slots Q (F0 m pc ls st) := by
  subst hqC
  have hFc := va_free (wc := wc) hD hS hA isC hC
  refine va_callv (va_runV (As := As) (rest := rest) S hM (cwV As.length S.2.2.2.2 gw rfl rfl rfl hd hR) ⟨ct_blind, ct_recv hP hK hC hc hw, fun U hU hW => ct_pre hP hD hK hS hA hT hn hC hKc U hU hW⟩ rfl rfl hsize hst (lv_room hrest) hdg hf) hS (fun q _ h => hFc q h) hFc (fun u t H1 locs ht hvm hw hB hz1 hk1 hS => ?_)
  obtain ⟨hP1, -, hD1⟩ := hB
  rw [ht] at hP1
  obtain ⟨hP, hD⟩ := va_join hP hD isC isR hC hRr hnR hdis hk1 hFc hP1 hD1
  exact kk H1 locs hP hD hS
theorem ct_cvd {r : UInt64} (S : CallFix p m c cc nL s args wT own) (hM : Ct l dC dI tt y b n (some .double) rm tysc (.ref h :: As) wc H.size (fun A => ctQd dC dI tysc r w1 A)) (gw : GoodIn wT (wsV own index C y (.code y b n (some .double) :: wT)))
    (hd : y.cls = C ∧ y.cls ≠ "java/lang/invoke/MethodHandle" ∧ y.cls ≠ "java/lang/invoke/VarHandle" ∧ (parseMethodDescriptor y.desc).map (fun d => d.parameters.length) = some As.length) (hR : rm.frames + 1 ≤ R.frames ∧ 8 + (n + 11) + rm.locals ≤ R.locals)
    {ci : Nat} {q : vw_C} {fs : List Value} (hc : cls[ci]? = some q) (hqC : q.1 = C) (hw : wc[0]? = some (h, .inr (ci, fs)))
    (hP : va_P (dC, dI) cls ws H) (hD : va_D A ws) (hK : va_K (dC, dI) cls tys s) (hS : va_S A s.heap H locs) (hA : ∀ q : Nat, s.heap.size ≤ q → A q) (hT : sT tt A s s.heap) (isC isR tyi : List Nat) (hn : va_nd isC = true) (hC : isC.map (fun i => ws[i]?) = wc.map some) (hRr : isR.map (fun i => ws[i]?) = wr.map some) (hnR : va_nd isR = true) (hdis : ∀ i ∈ isR, i ∉ isC) (hKc : tyi.filterMap (fun i => tys[i]?) = tysc)
    (hsize : ls.size = nL) {st : List Value} (hst : st = As.reverse ++ .ref h :: rest) (hrest : (rest.map fun v => v.category).sum ≤ 8) (hdg : decode cc pc = .ok (.invokevirtual index, 3)) (hf : cells + rm.cells ≤ R.cells ∧ slots + rm.slots ≤ R.slots)
    (kk : ∀ (H1 : Heap) (locs1 : List Loc), va_P (dC, dI) cls (wr ++ w1) H1 → va_D A (wr ++ w1) → va_S A s.heap H1 locs1 → W p l e R s m args below meth c H1 locs1 (cells + rm.cells) (slots + rm.slots) Q (F0 m (pc + 3) ls (.double r :: rest))) : W p l e R s m args below meth c H locs cells slots Q (F0 m pc ls st) := by
  subst hqC
  have hFc := va_free (wc := wc) hD hS hA isC hC
  refine va_calld (va_runV (As := As) (rest := rest) S hM (cwV As.length S.2.2.2.2 gw rfl rfl rfl hd hR) ⟨ct_blind, ct_recv hP hK hC hc hw, fun U hU hW => ct_pre hP hD hK hS hA hT hn hC hKc U hU hW⟩ rfl rfl hsize hst (lv_room hrest) hdg hf) hS (fun q _ h => hFc q h) hFc (fun r2 u t H1 locs ht hvm hw hB hz1 hk1 hS => ?_)
  obtain ⟨hP1, -, hD1⟩ := hB
  rw [ht] at hP1
  obtain ⟨hP, hD⟩ := va_join hP hD isC isR hC hRr hnR hdis hk1 hFc hP1 hD1
  have hw : r2 = r := hw
  subst hw
  exact kk H1 locs hP hD hS
theorem ct_cvi {r : Int32} (S : CallFix p m c cc nL s args wT own) (hM : Ct l dC dI tt y b n ret rm tysc (.ref h :: As) wc H.size (fun A => ctQi dC dI tysc r w1 A)) (gw : GoodIn wT (wsV own index C y (.code y b n ret :: wT)))
    (hd : y.cls = C ∧ y.cls ≠ "java/lang/invoke/MethodHandle" ∧ y.cls ≠ "java/lang/invoke/VarHandle" ∧ (parseMethodDescriptor y.desc).map (fun d => d.parameters.length) = some As.length) (hR : rm.frames + 1 ≤ R.frames ∧ 8 + (n + 11) + rm.locals ≤ R.locals)
    {ci : Nat} {q : vw_C} {fs : List Value} (hc : cls[ci]? = some q) (hqC : q.1 = C) (hw : wc[0]? = some (h, .inr (ci, fs)))
    (hP : va_P (dC, dI) cls ws H) (hD : va_D A ws) (hK : va_K (dC, dI) cls tys s) (hS : va_S A s.heap H locs) (hA : ∀ q : Nat, s.heap.size ≤ q → A q) (hT : sT tt A s s.heap) (isC isR tyi : List Nat) (hn : va_nd isC = true) (hC : isC.map (fun i => ws[i]?) = wc.map some) (hRr : isR.map (fun i => ws[i]?) = wr.map some) (hnR : va_nd isR = true) (hdis : ∀ i ∈ isR, i ∉ isC) (hKc : tyi.filterMap (fun i => tys[i]?) = tysc)
    (hsize : ls.size = nL) {st : List Value} (hst : st = As.reverse ++ .ref h :: rest) (hrest : (rest.map fun v => v.category).sum ≤ 8) (hdg : decode cc pc = .ok (.invokevirtual index, 3)) (hf : cells + rm.cells ≤ R.cells ∧ slots + rm.slots ≤ R.slots)
    (kk : ∀ (H1 : Heap) (locs1 : List Loc), va_P (dC, dI) cls (wr ++ w1) H1 → va_D A (wr ++ w1) → va_S A s.heap H1 locs1 → W p l e R s m args below meth c H1 locs1 (cells + rm.cells) (slots + rm.slots) Q (F0 m (pc + 3) ls (.int r :: rest))) : W p l e R s m args below meth c H locs cells slots Q (F0 m pc ls st) := by
  subst hqC
  have hFc := va_free (wc := wc) hD hS hA isC hC
  refine va_calli (va_runV (As := As) (rest := rest) S hM (cwV As.length S.2.2.2.2 gw rfl rfl rfl hd hR) ⟨ct_blind, ct_recv hP hK hC hc hw, fun U hU hW => ct_pre hP hD hK hS hA hT hn hC hKc U hU hW⟩ rfl rfl hsize hst (lv_room hrest) hdg hf) hS (fun q _ h => hFc q h) hFc (fun r2 u t H1 locs ht hvm hw hB hz1 hk1 hS => ?_)
  obtain ⟨hP1, -, hD1⟩ := hB
  rw [ht] at hP1
  obtain ⟨hP, hD⟩ := va_join hP hD isC isR hC hRr hnR hdis hk1 hFc hP1 hD1
  have hw : r2 = r := hw
  subst hw
  exact kk H1 locs hP hD hS
/-- a static method that touches no cell -/
theorem ct_csd {r : UInt64} (S : CallFix p m c cc nL s args wT own) (hM : Ct l dC dI tt y b n (some .double) rm [] As [] H.size (fun A => ctQd dC dI [] r [] A)) (gw : GoodIn wT (va_wsS own index y (.code y b n (some .double) :: wT)))
    (hd : y.cls ≠ "java/lang/invoke/MethodHandle" ∧ y.cls ≠ "java/lang/invoke/VarHandle" ∧ (parseMethodDescriptor y.desc).map (fun d => d.parameters.length) = some As.length) (hR : rm.frames + 1 ≤ R.frames ∧ 8 + (n + 11) + rm.locals ≤ R.locals)
    (hP : va_P (dC, dI) cls ws H) (hD : va_D A ws) (hK : va_K (dC, dI) cls tys s) (hS : va_S A s.heap H locs) (hA : ∀ q : Nat, s.heap.size ≤ q → A q) (hT : sT tt A s s.heap) (isR : List Nat) (hRr : isR.map (fun i => ws[i]?) = wr.map some) (hnR : va_nd isR = true)
    (hsize : ls.size = nL) {st : List Value} (hst : st = As.reverse ++ rest) (hrest : (rest.map fun v => v.category).sum ≤ 8) (hdg : decode cc pc = .ok (.invokestatic index, 3)) (hf : cells + rm.cells ≤ R.cells ∧ slots + rm.slots ≤ R.slots)
    (kk : ∀ (H1 : Heap) (locs1 : List Loc), va_P (dC, dI) cls wr H1 → va_D A wr → va_S A s.heap H1 locs1 → W p l e R s m args below meth c H1 locs1 (cells + rm.cells) (slots + rm.slots) Q (F0 m (pc + 3) ls (.double r :: rest))) : W p l e R s m args below meth c H locs cells slots Q (F0 m pc ls st) := by
  have hFc := va_free (wc := []) hD hS hA [] rfl
  refine va_calld (va_runS (As := As) (rest := rest) S hM (va_cwS As.length S.2.2.2.2 gw rfl rfl rfl hd hR) ⟨ct_blind, fun U hU hW => ct_pre (isC := []) (tyi := []) hP hD hK hS hA hT rfl rfl rfl U hU hW⟩ rfl rfl hsize hst (lv_room hrest) hdg hf) hS (fun q _ h => hFc q h) hFc (fun r2 u t H1 locs ht hvm hw hB hz1 hk1 hS => ?_)
  obtain ⟨hP1, -, hD1⟩ := hB
  rw [ht] at hP1
  obtain ⟨hP, hD⟩ := va_join (w1 := []) hP hD [] isR rfl hRr hnR (by simp) hk1 hFc hP1 hD1
  have hw : r2 = r := hw
  subst hw
  rw [List.append_nil] at hP hD
  exact kk H1 locs hP hD hS
theorem ct_csi {r : Int32} (S : CallFix p m c cc nL s args wT own) (hM : Ct l dC dI tt y b n ret rm [] As [] H.size (fun A => ctQi dC dI [] r [] A)) (gw : GoodIn wT (va_wsS own index y (.code y b n ret :: wT)))
    (hd : y.cls ≠ "java/lang/invoke/MethodHandle" ∧ y.cls ≠ "java/lang/invoke/VarHandle" ∧ (parseMethodDescriptor y.desc).map (fun d => d.parameters.length) = some As.length) (hR : rm.frames + 1 ≤ R.frames ∧ 8 + (n + 11) + rm.locals ≤ R.locals)
    (hP : va_P (dC, dI) cls ws H) (hD : va_D A ws) (hK : va_K (dC, dI) cls tys s) (hS : va_S A s.heap H locs) (hA : ∀ q : Nat, s.heap.size ≤ q → A q) (hT : sT tt A s s.heap) (isR : List Nat) (hRr : isR.map (fun i => ws[i]?) = wr.map some) (hnR : va_nd isR = true)
    (hsize : ls.size = nL) {st : List Value} (hst : st = As.reverse ++ rest) (hrest : (rest.map fun v => v.category).sum ≤ 8) (hdg : decode cc pc = .ok (.invokestatic index, 3)) (hf : cells + rm.cells ≤ R.cells ∧ slots + rm.slots ≤ R.slots)
    (kk : ∀ (H1 : Heap) (locs1 : List Loc), va_P (dC, dI) cls wr H1 → va_D A wr → va_S A s.heap H1 locs1 → W p l e R s m args below meth c H1 locs1 (cells + rm.cells) (slots + rm.slots) Q (F0 m (pc + 3) ls (.int r :: rest))) : W p l e R s m args below meth c H locs cells slots Q (F0 m pc ls st) := by
  have hFc := va_free (wc := []) hD hS hA [] rfl
  refine va_calli (va_runS (As := As) (rest := rest) S hM (va_cwS As.length S.2.2.2.2 gw rfl rfl rfl hd hR) ⟨ct_blind, fun U hU hW => ct_pre (isC := []) (tyi := []) hP hD hK hS hA hT rfl rfl rfl U hU hW⟩ rfl rfl hsize hst (lv_room hrest) hdg hf) hS (fun q _ h => hFc q h) hFc (fun r2 u t H1 locs ht hvm hw hB hz1 hk1 hS => ?_)
  obtain ⟨hP1, -, hD1⟩ := hB
  rw [ht] at hP1
  obtain ⟨hP, hD⟩ := va_join (w1 := []) hP hD [] isR rfl hRr hnR (by simp) hk1 hFc hP1 hD1
  have hw : r2 = r := hw
  subst hw
  rw [List.append_nil] at hP hD
  exact kk H1 locs hP hD hS
/-- arrays, with the place and the value named -/
theorem ct_dald (hexec : p.tables.exec = Jvm.exec) (hb : c.code = cc) (hK : va_K (dC, dI) cls tys s) (hP : va_P (dC, dI) cls ws H) (q0 t0 : Nat) {a : Nat} {cA : ClassId} {N : Nat} {f : Nat → UInt64} (ha : ws[q0]? = some (a, .inl (cA, N, .inr (.inr (.inr (.inl f)))))) (ht : tys[t0]? = some (cA, .double)) {i : Int32} {k : Nat} {v : UInt64} (hin : vp_in i N) (hk : i.toNatClampNeg = k) (hv : f k = v) (hdg : decode cc pc = .ok (.daload, 1))
    (kk : W p l e R s m args below meth c H locs cells slots Q (F0 m (pc + 1) ls (.double v :: rest))) : W p l e R s m args below meth c H locs cells slots Q (F0 m pc ls (.int i :: .ref a :: rest)) := by
  subst hk; subst hv
  exact va_dald hexec hb hK hP q0 t0 ha ht hin hdg kk
theorem ct_dast (hexec : p.tables.exec = Jvm.exec) (hb : c.code = cc) (hK : va_K (dC, dI) cls tys s) (hP : va_P (dC, dI) cls ws H) (hD : va_D A ws) (hS : va_S A s.heap H locs) (q0 t0 : Nat) {a : Nat} {cA : ClassId} {N : Nat} {f : Nat → UInt64} (ha : ws[q0]? = some (a, .inl (cA, N, .inr (.inr (.inr (.inl f)))))) (ht : tys[t0]? = some (cA, .double)) {i : Int32} {x : UInt64} {k : Nat} (hin : vp_in i N) (hk : i.toNatClampNeg = k) (hw : ws.set q0 (a, .inl (cA, N, .inr (.inr (.inr (.inl (vf_upd f k x)))))) = w1) (hdg : decode cc pc = .ok (.dastore, 1))
    (kk : ∀ (H1 : Heap) (locs1 : List Loc), va_P (dC, dI) cls w1 H1 → va_D A w1 → va_S A s.heap H1 locs1 → W p l e R s m args below meth c H1 locs1 cells slots Q (F0 m (pc + 1) ls rest)) : W p l e R s m args below meth c H locs cells slots Q (F0 m pc ls (.double x :: .int i :: .ref a :: rest)) := by
  subst hk; subst hw
  exact va_dast hexec hb hK hP hD hS q0 t0 ha ht hin hdg kk
theorem ct_iald (hexec : p.tables.exec = Jvm.exec) (hb : c.code = cc) (hK : va_K (dC, dI) cls tys s) (hP : va_P (dC, dI) cls ws H) (q0 t0 : Nat) {a : Nat} {cA : ClassId} {N : Nat} {f : Nat → Int32} (ha : ws[q0]? = some (a, .inl (cA, N, .inl f))) (ht : tys[t0]? = some (cA, .int)) {i : Int32} {k : Nat} {v : Int32} (hin : vp_in i N) (hk : i.toNatClampNeg = k) (hv : f k = v) (hdg : decode cc pc = .ok (.iaload, 1))
    (kk : W p l e R s m args below meth c H locs cells slots Q (F0 m (pc + 1) ls (.int v :: rest))) : W p l e R s m args below meth c H locs cells slots Q (F0 m pc ls (.int i :: .ref a :: rest)) := by
  subst hk; subst hv
  exact va_iald hexec hb hK hP q0 t0 ha ht hin hdg kk
theorem ct_iast (hexec : p.tables.exec = Jvm.exec) (hb : c.code = cc) (hK : va_K (dC, dI) cls tys s) (hP : va_P (dC, dI) cls ws H) (hD : va_D A ws) (hS : va_S A s.heap H locs) (q0 t0 : Nat) {a : Nat} {cA : ClassId} {N : Nat} {f : Nat → Int32} (ha : ws[q0]? = some (a, .inl (cA, N, .inl f))) (ht : tys[t0]? = some (cA, .int)) {i x : Int32} {k : Nat} (hin : vp_in i N) (hk : i.toNatClampNeg = k) (hw : ws.set q0 (a, .inl (cA, N, .inl (upd f k x))) = w1) (hdg : decode cc pc = .ok (.iastore, 1))
    (kk : ∀ (H1 : Heap) (locs1 : List Loc), va_P (dC, dI) cls w1 H1 → va_D A w1 → va_S A s.heap H1 locs1 → W p l e R s m args below meth c H1 locs1 cells slots Q (F0 m (pc + 1) ls rest)) : W p l e R s m args below meth c H locs cells slots Q (F0 m pc ls (.int x :: .int i :: .ref a :: rest)) := by
  subst hk; subst hw
  exact va_iast hexec hb hK hP hD hS q0 t0 ha ht hin hdg kk
/-- a given table's place -/
theorem ct_tab {Cn n : String} {t N : Nat} {f : Nat → Nat} (hexec : p.tables.exec = Jvm.exec) (hb : c.code = cc) (hT : sT1 Cn n t N f A s s.heap) (hS : va_S A s.heap H locs) {i v : Int32} {k : Nat} (hin : vp_in i N) (hk : i.toNatClampNeg = k) (hv : nI (f k) = v) (hdg : decode cc pc = .ok (.iaload, 1))
    (kk : W p l e R s m args below meth c H locs cells slots Q (F0 m (pc + 1) ls (.int v :: rest))) : W p l e R s m args below meth c H locs cells slots Q (F0 m pc ls (.int i :: .ref t :: rest)) := by
  subst hk; subst hv
  exact va_ti hexec hb hT.2 hS hin rfl hdg kk
end CT
end
section
/-! what a method reckons, as pure functions; comparisons -/
section CT2
variable {p : Program} {l : Launch} {e : Env} {R : Room} {s : State} {m : MethodId} {args : Array Value} {below : List Frame} {meth : Method} {c : Code} {H : Heap} {locs : List Loc} {cells slots : Nat} {Q : State → Prop} {pc : Nat} {ls : Array Slot} {rest : List Value}
theorem ct_topi {x y : Int32} (h : x = y) (k : W p l e R s m args below meth c H locs cells slots Q (F0 m pc ls (.int y :: rest))) : W p l e R s m args below meth c H locs cells slots Q (F0 m pc ls (.int x :: rest)) := by subst h; exact k
theorem ct_topd {x y : UInt64} (h : x = y) (k : W p l e R s m args below meth c H locs cells slots Q (F0 m pc ls (.double y :: rest))) : W p l e R s m args below meth c H locs cells slots Q (F0 m pc ls (.double x :: rest)) := by subst h; exact k
theorem ct_pc {q : Nat} (h : pc = q) (k : W p l e R s m args below meth c H locs cells slots Q (F0 m q ls rest)) : W p l e R s m args below meth c H locs cells slots Q (F0 m pc ls rest) := by subst h; exact k
end CT2
theorem cv_l_le (o : Option Ordering) : Op.cmpValue o .l ≤ 0 ↔ o ≠ some .gt := by cases o with
  | none => decide
  | some o => cases o <;> decide
theorem cv_l_lt (o : Option Ordering) : Op.cmpValue o .l < 0 ↔ (o = some .lt ∨ o = none) := by cases o with
  | none => decide
  | some o => cases o <;> decide
theorem cv_l_gt (o : Option Ordering) : 0 < Op.cmpValue o .l ↔ o = some .gt := by cases o with
  | none => decide
  | some o => cases o <;> decide
theorem cv_l_ge (o : Option Ordering) : 0 ≤ Op.cmpValue o .l ↔ (o = some .gt ∨ o = some .eq) := by cases o with
  | none => decide
  | some o => cases o <;> decide
theorem cv_l_eq (o : Option Ordering) : Op.cmpValue o .l = 0 ↔ o = some .eq := by cases o with
  | none => decide
  | some o => cases o <;> decide
theorem cv_g_gt (o : Option Ordering) : 0 < Op.cmpValue o .g ↔ (o = some .gt ∨ o = none) := by cases o with
  | none => decide
  | some o => cases o <;> decide
theorem cv_g_ge (o : Option Ordering) : 0 ≤ Op.cmpValue o .g ↔ o ≠ some .lt := by cases o with
  | none => decide
  | some o => cases o <;> decide
theorem cv_g_le (o : Option Ordering) : Op.cmpValue o .g ≤ 0 ↔ (o = some .lt ∨ o = some .eq) := by cases o with
  | none => decide
  | some o => cases o <;> decide
theorem cv_g_lt (o : Option Ordering) : Op.cmpValue o .g < 0 ↔ o = some .lt := by cases o with
  | none => decide
  | some o => cases o <;> decide
/-- finite, as the bits say -/
def ft_isP (a : UInt64) : Bool := match FP.Core.val64 a with
  | .fin false _ _ => true
  | _ => false
theorem ft_isP_P {a : UInt64} (h : ft_isP a = true) : ft_P a := by
  unfold ft_isP at h
  split at h
  · rename_i c q e
    exact ⟨c, q, e⟩
  · cases h
/-- a table's value as a number -/
def tv (r j : Nat) : UInt64 := FP.ddiv (FP.i2d (nI (tb_TB (r * 9 + j)))) (if r < 4 then 4620693217682128896 else 4661225614328463360)
def tU (r j : Nat) : Nat := if r < 4 then tb_TB (r * 9 + j) * 512 else tb_TB (r * 9 + j)
theorem tv_all : ∀ r, r < 9 → ∀ j, j < 9 → ft_isP (tv r j) = true ∧ ft_z (tv r j) = tU r j * ft_w ∧ tU r j ≤ 4096 := by decide +kernel
theorem tv_P {r j : Nat} (hr : r < 9) (hj : j < 9) : ft_P (tv r j) := ft_isP_P (tv_all r hr j hj).1
theorem md_all : ∀ j, j < 9 → ft_isP (FP.i2d (nI (tb_MD j))) = true ∧ ft_z (FP.i2d (nI (tb_MD j))) = tb_MD j * FP.Core.one64 := by decide +kernel
theorem md_P {j : Nat} (hj : j < 9) : ft_P (FP.i2d (nI (tb_MD j))) := ft_isP_P (md_all j hj).1
theorem md_d : ∀ j, j < 8 → ft_isP (FP.i2d (nI (tb_MD (j + 1)) - nI (tb_MD j))) = true ∧ ft_z (FP.i2d (nI (tb_MD (j + 1)) - nI (tb_MD j))) = (tb_MD (j + 1) - tb_MD j) * FP.Core.one64 ∧ 0 < tb_MD (j + 1) - tb_MD j ∧ tb_MD (j + 1) - tb_MD j ≤ 1000 ∧ tb_MD j ≤ tb_MD (j + 1) := by decide +kernel
theorem md0z : ft_z (FP.i2d (nI (tb_MD 0))) = 0 := by decide +kernel
/-- the last mark that isn't above T -/
def mkN (T : UInt64) : Nat → Nat → Nat
  | 0, j => j
  | n + 1, j => if FP.dcmp (FP.i2d (nI (tb_MD (j + 1)))) T = some .gt then j else mkN T n (j + 1)
def mk (T : UInt64) : Nat := mkN T 8 0
theorem mkN_le (T : UInt64) : ∀ n j, mkN T n j ≤ n + j
  | 0, j => by unfold mkN; omega
  | n + 1, j => by
    unfold mkN
    split
    · omega
    · have := mkN_le T n (j + 1); omega
theorem mk_le (T : UInt64) : mk T ≤ 8 := mkN_le T 8 0
theorem mkN_ge (T : UInt64) : ∀ n j, j ≤ mkN T n j
  | 0, j => by unfold mkN; omega
  | n + 1, j => by
    unfold mkN
    split
    · omega
    · have := mkN_ge T n (j + 1); omega
/-- a row's value at T -/
def rwv (T : UInt64) (r j : Nat) : UInt64 := if j < 8 then FP.dadd (tv r j) (FP.ddiv (FP.dmul (FP.dsub (tv r (j + 1)) (tv r j)) (FP.dsub T (FP.i2d (nI (tb_MD j))))) (FP.i2d (nI (tb_MD (j + 1)) - nI (tb_MD j)))) else tv r 8
/-- the mark and T -/
theorem mkN_in {T : UInt64} (hT : ft_P T) : ∀ n j, n + j = 8 → ft_z (FP.i2d (nI (tb_MD j))) ≤ ft_z T → ft_z (FP.i2d (nI (tb_MD (mkN T n j)))) ≤ ft_z T ∧ (mkN T n j < 8 → ft_z T ≤ ft_z (FP.i2d (nI (tb_MD (mkN T n j + 1)))))
  | 0, j, h, hj => by
    unfold mkN
    exact ⟨hj, fun h9 => by omega⟩
  | n + 1, j, h, hj => by
    unfold mkN
    have hm := md_P (j := j + 1) (by omega)
    split
    · rename_i h1
      exact ⟨hj, fun _ => Nat.le_of_lt ((ft_gt hm hT).mp h1)⟩
    · rename_i h1
      refine mkN_in hT n (j + 1) (by omega) ?_
      rw [ft_gt hm hT] at h1
      omega
theorem mk_in {T : UInt64} (hT : ft_P T) : ft_z (FP.i2d (nI (tb_MD (mk T)))) ≤ ft_z T ∧ (mk T < 8 → ft_z T ≤ ft_z (FP.i2d (nI (tb_MD (mk T + 1))))) :=
  mkN_in hT 8 0 rfl (by rw [md0z]; exact Nat.zero_le _)
/-- what between reckons is never no number, and from 0 to 1 -/
theorem rw_ok {T : UInt64} (hT : ft_P T) {r : Nat} (hr : r < 9) (hj : mk T < 8) :
    vf_n64 (FP.dsub (tv r (mk T + 1)) (tv r (mk T))) ∧ vf_n64 (FP.dsub T (FP.i2d (nI (tb_MD (mk T))))) ∧ vf_n64 (FP.dmul (FP.dsub (tv r (mk T + 1)) (tv r (mk T))) (FP.dsub T (FP.i2d (nI (tb_MD (mk T)))))) ∧
    vf_n64 (FP.ddiv (FP.dmul (FP.dsub (tv r (mk T + 1)) (tv r (mk T))) (FP.dsub T (FP.i2d (nI (tb_MD (mk T)))))) (FP.i2d (nI (tb_MD (mk T + 1)) - nI (tb_MD (mk T))))) ∧
    ft_P (FP.dadd (tv r (mk T)) (FP.ddiv (FP.dmul (FP.dsub (tv r (mk T + 1)) (tv r (mk T))) (FP.dsub T (FP.i2d (nI (tb_MD (mk T)))))) (FP.i2d (nI (tb_MD (mk T + 1)) - nI (tb_MD (mk T)))))) ∧ ft_z (FP.dadd (tv r (mk T)) (FP.ddiv (FP.dmul (FP.dsub (tv r (mk T + 1)) (tv r (mk T))) (FP.dsub T (FP.i2d (nI (tb_MD (mk T)))))) (FP.i2d (nI (tb_MD (mk T + 1)) - nI (tb_MD (mk T)))))) ≤ FP.Core.one64 := by
  obtain ⟨h1, h2⟩ := mk_in hT
  have h2 := h2 hj
  generalize mk T = j at *
  obtain ⟨u1, u2, u3⟩ := tv_all r hr j (by omega)
  obtain ⟨v1, v2, v3⟩ := tv_all r hr (j + 1) (by omega)
  obtain ⟨d1, d2, d3, d4, d5⟩ := md_d j hj
  have m1 := (md_all j (by omega)).2
  have m2 := (md_all (j + 1) (by omega)).2
  refine ft_row (U := tU r j) (V := tU r (j + 1)) (N := tb_MD (j + 1) - tb_MD j) (ft_isP_P u1) u2 (ft_isP_P v1) v2 u3 v3 hT (md_P (by omega)) (ft_isP_P d1) d2 d3 d4 h1 ?_
  refine Nat.le_trans h2 ?_
  rw [m1, m2, d2, Nat.sub_mul]
  have := Nat.mul_le_mul_right FP.Core.one64 d5
  omega
theorem rw_P {T : UInt64} (hT : ft_P T) {r : Nat} (hr : r < 9) : ft_P (rwv T r (mk T)) ∧ ft_z (rwv T r (mk T)) ≤ FP.Core.one64 := by
  unfold rwv
  split
  · rename_i h
    exact (rw_ok hT hr h).2.2.2.2
  · refine ⟨tv_P hr (by decide), ?_⟩
    obtain ⟨-, h1, h2⟩ := tv_all r hr 8 (by decide)
    rw [h1, ← ft_w4096]
    exact Nat.mul_le_mul_right _ h2
/-- the rows' values behind moveTo -/
def rwA (T : UInt64) (i : Nat) (rv : Nat → UInt64) : Nat → UInt64 := fun k => if k < i then rwv T k (mk T) else rv k
theorem rwA_0 (T : UInt64) (rv : Nat → UInt64) : rwA T 0 rv = rv := funext fun k => if_neg (Nat.not_lt_zero k)
theorem rwA_s (T : UInt64) (i : Nat) (rv : Nat → UInt64) : vf_upd (rwA T i rv) i (rwv T i (mk T)) = rwA T (i + 1) rv := funext fun k => by
  unfold vf_upd rwA
  by_cases h : k = i
  · subst h; simp
  · by_cases h2 : k < i
    · simp [h, h2, Nat.lt_succ_of_lt h2]
    · simp [h, h2, show ¬ k < i + 1 by omega]
/-- the acidity's fitness, an enzyme's action -/
def fitA (A : UInt64) : UInt64 := if FP.dcmp (FP.dsub 0x3FF0000000000000 (FP.dmul (FP.dmul (FP.dsub A 0x4016000000000000) (FP.dsub A 0x4016000000000000)) 0x3FD0000000000000)) 0 = some .lt then 0 else FP.dsub 0x3FF0000000000000 (FP.dmul (FP.dmul (FP.dsub A 0x4016000000000000) (FP.dsub A 0x4016000000000000)) 0x3FD0000000000000)
theorem fitA_P {A : UInt64} (h : ft_P A) : ft_P (fitA A) ∧ ft_z (fitA A) ≤ FP.Core.one64 := by
  unfold fitA
  split
  · exact ⟨ft_0P, by rw [ft_0z]; exact Nat.zero_le _⟩
  · rename_i h1
    exact (ft_fitness h).2.2.2.2 h1
def actX (x W : UInt64) : UInt64 := if FP.dcmp x 0 = some .gt then FP.dmul (FP.ddiv x (FP.dadd x W)) 0x3FB0000000000000 else 0
/-- the four actions -/
def actE (a rv : Nat → UInt64) (A : UInt64) (e : Nat) : UInt64 := actX (FP.dmul (FP.dmul (a (9 + e)) (rv e)) (fitA A)) (a 0)
def actA (a rv : Nat → UInt64) (A : UInt64) (i : Nat) (ac : Nat → UInt64) : Nat → UInt64 := fun k => if k < i then actE a rv A k else ac k
theorem actA_0 (a rv : Nat → UInt64) (A : UInt64) (ac : Nat → UInt64) : actA a rv A 0 ac = ac := funext fun k => if_neg (Nat.not_lt_zero k)
theorem actA_s (a rv : Nat → UInt64) (A : UInt64) (i : Nat) (ac : Nat → UInt64) : vf_upd (actA a rv A i ac) i (actE a rv A i) = actA a rv A (i + 1) ac := funext fun k => by
  unfold vf_upd actA
  by_cases h : k = i
  · subst h; simp
  · by_cases h2 : k < i
    · simp [h, h2, Nat.lt_succ_of_lt h2]
    · simp [h, h2, show ¬ k < i + 1 by omega]
/-- the splits, step by step -/
def lesD (a b : UInt64) : UInt64 := if FP.dcmp b a = some .lt then b else a
def s3 (a rv : Nat → UInt64) : Nat → UInt64 := vf_upd (vf_upd a 1 (FP.dsub (a 1) (FP.dmul (a 1) (rv 8)))) 2 (FP.dadd (a 2) (FP.dmul (a 1) (rv 8)))
def s4 (a ac : Nat → UInt64) : Nat → UInt64 := vf_upd (vf_upd (vf_upd a 2 (FP.dsub (a 2) (FP.dmul (a 2) (ac 0)))) 6 (FP.dadd (a 6) (FP.dmul (FP.dmul (a 2) (ac 0)) 0x3FE8000000000000))) 5 (FP.dadd (a 5) (FP.dmul (FP.dmul (a 2) (ac 0)) 0x3FD0000000000000))
def y5 (a ac : Nat → UInt64) : UInt64 := lesD (FP.dmul (a 6) (ac 1)) (FP.dmul (a 0) 0x4020000000000000)
def s5 (a ac : Nat → UInt64) : Nat → UInt64 := vf_upd (vf_upd (vf_upd a 6 (FP.dsub (a 6) (y5 a ac))) 4 (FP.dadd (a 4) (FP.dmul (y5 a ac) 0x3FF1000000000000))) 0 (FP.dsub (a 0) (FP.dmul (y5 a ac) 0x3FB0000000000000))
def z6 (a ac : Nat → UInt64) : UInt64 := lesD (FP.dmul (a 6) (ac 2)) (FP.dmul (a 0) 0x4000000000000000)
def s6 (a ac : Nat → UInt64) : Nat → UInt64 := vf_upd (vf_upd (vf_upd a 6 (FP.dsub (a 6) (z6 a ac))) 3 (FP.dadd (a 3) (FP.dmul (z6 a ac) 0x3FF2000000000000))) 0 (FP.dsub (a 0) (FP.dmul (z6 a ac) 0x3FC0000000000000))
def s7 (a ac : Nat → UInt64) : Nat → UInt64 := vf_upd (vf_upd a 8 (FP.dsub (a 8) (FP.dmul (a 8) (ac 3)))) 7 (FP.dadd (a 7) (FP.dmul (a 8) (ac 3)))
def s8 (a rv : Nat → UInt64) (i : Nat) : Nat → UInt64 := fun k => if 9 ≤ k ∧ k < 9 + i then FP.dsub (a k) (FP.dmul (a k) (rv (4 + (k - 9)))) else a k
theorem s8_0 (a rv : Nat → UInt64) : s8 a rv 0 = a := funext fun k => if_neg (by omega)
theorem s8_s (a rv : Nat → UInt64) (i : Nat) : vf_upd (s8 a rv i) (9 + i) (FP.dsub (a (9 + i)) (FP.dmul (a (9 + i)) (rv (4 + i)))) = s8 a rv (i + 1) := funext fun k => by
  unfold vf_upd s8
  by_cases h : k = 9 + i
  · subst h
    rw [if_pos rfl, if_pos (by omega), show 9 + i - 9 = i by omega]
  · rw [if_neg h]
    by_cases h2 : 9 ≤ k ∧ k < 9 + i
    · rw [if_pos h2, if_pos (by omega)]
    · rw [if_neg h2, if_neg (by omega)]
theorem s8_at (a rv : Nat → UInt64) (i : Nat) : s8 a rv i (9 + i) = a (9 + i) := if_neg (by omega)
/-- the first step later than now -/
def fstN (hs : Nat → Int32) (nw : Int32) (hc : Nat) : Nat → Nat → Nat
  | 0, k => k
  | n + 1, k => if k < hc ∧ hs k ≤ nw then fstN hs nw hc n (k + 1) else k
def fst (hs : Nat → Int32) (nw : Int32) (hc k : Nat) : Nat := fstN hs nw hc (hc - k) k
/-- T behind the second's heating, with k the first later step -/
def heatT (hs : Nat → Int32) (ht : Nat → UInt64) (hc k : Nat) (nw : Int32) (T : UInt64) : UInt64 := if k < hc then FP.dadd T (FP.ddiv (FP.dsub (ht k) T) (FP.i2d (hs k - nw))) else T
end
section
theorem ft_bits {a : UInt64} (h : ft_P a) : a.toNat < 2 ^ 63 := by
  obtain ⟨c, q, e⟩ := h
  have h1 := FP.Core.sign_bits (a := a) (s := false) (Or.inl ⟨c, q, e⟩)
  refine Nat.lt_of_not_le fun h2 => ?_
  have := h1.mpr h2
  cases this
theorem ft_inj {a b : UInt64} (ha : ft_P a) (hb : ft_P b) (h : FP.dcmp a b = some .eq) : a = b :=
  UInt64.toNat.inj ((FP.Core.mono_bits ha.fin.ne_nan hb.fin.ne_nan (ft_bits ha) (ft_bits hb)).2.1.mp h)
theorem ft_some {a b : UInt64} (ha : ft_P a) (hb : ft_P b) : FP.dcmp a b ≠ none := by rw [ft_cmp ha hb]; intro h; cases h
/-- dcmpg and ifgt between two numbers -/
theorem ft_g {a b : UInt64} (ha : ft_P a) (hb : ft_P b) : 0 < Op.cmpValue (FP.dcmp a b) .g ↔ FP.dcmp a b = some .gt := by
  rw [cv_g_gt]
  have := ft_some ha hb
  constructor
  · rintro (h | h)
    · exact h
    · exact absurd h this
  · exact Or.inl
theorem mk_first {T : UInt64} (hT : ft_P T) : ¬ 0 < Op.cmpValue (FP.dcmp (FP.i2d (nI (tb_MD 0))) T) .g := by
  rw [ft_g (md_P (by decide)) hT, ft_gt (md_P (by decide)) hT, md0z]
  exact Nat.not_lt_zero _
theorem rwA_same {ra : UInt64} {rv : Nat → UInt64} (h : ∀ k, k < 9 → rv k = rwv ra k (mk ra)) : rwA ra 9 rv = rv := funext fun k => by
  unfold rwA
  split
  · rename_i h1
    exact (h k h1).symm
  · rfl
theorem nI_mk (T : UInt64) : mk T < 2 ^ 31 := Nat.lt_of_le_of_lt (mk_le T) (by decide)
set_option maxHeartbeats 4000000 in
set_option maxRecDepth 100000 in
/-- a table's value -/
theorem cQ_atMark (l : Launch) (dC : Nat → ClassId) (dI : Nat → Nat → Nat) (tt : Nat → Nat) (sz : Nat) (r j : Nat) (hr9 : r < 9) (hj9 : j < 9) : Ct l dC dI tt yQ_atMark bQ_atMark 2 (some .double) ({ frames := 0, cells := 0, slots := 0, locals := 0 }) [] [.int (nI r), .int (nI j)] [] sz (fun A => ctQd dC dI [] (tv r j) [] A) := by
  refine ct_of (by decide) (Nat.le_of_ble_eq_true rfl) ?_
  intro p e s m below meth c A ls hx hb hr hts hown hml hlocks hnm hA hS hP hK hD hT hl
  have hl : lv_has ls 2 [(0, .int (nI r)), (1, .int (nI j))] := hl
  refine va_gets hx hb hT.2.2.2.1.1 hS hown (hts _ tw_f_Q_40) (fun _ h9 => h9) dQ_atMark_0 ?_
  refine lv_iload_n hx hb dQ_atMark_3 rfl (lv_at hl 0 rfl) ?_
  refine lv_bipush (v := 9) hx hb dQ_atMark_4 (by decide) ?_
  refine lv_imul hx hb dQ_atMark_6 ?_
  refine lv_iload_n hx hb dQ_atMark_7 rfl (lv_at hl 1 rfl) ?_
  refine lv_iadd hx hb dQ_atMark_8 ?_
  refine ct_topi (y := nI (r * 9 + j)) (by rw [show (9 : Int32) = nI 9 from rfl, pk_mul, nI_add]) ?_
  refine ct_tab (k := (r * 9 + j)) (v := nI (tb_TB (r * 9 + j))) hx hb hT.2.2.2.1 hS (vp_in_nI (by omega) (by decide)) (nI_clamp (by omega)) (rfl) dQ_atMark_9 ?_
  refine lv_i2d hx hb dQ_atMark_10 ?_
  refine lv_iload_n hx hb dQ_atMark_11 rfl (lv_at hl 0 rfl) ?_
  refine lv_iconst (v := 4) hx hb dQ_atMark_12 (by decide) ?_
  refine lv_icmp_ge (tgt := 22) hx hb dQ_atMark_13 (by decide) (fun c_1 => ?_) (fun c_1 => ?_)
  · have h4 : ¬ r < 4 := fun h => by have := (nI_leI (a := 4) (b := r) (by decide) (by omega)).mp c_1; omega
    have ht : tv r j = FP.ddiv (FP.i2d (nI (tb_TB (r * 9 + j)))) 4661225614328463360 := by unfold tv; rw [if_neg h4]
    refine lv_ldc2d hx hb hown (hts _ tw_d_Q_45) dQ_atMark_22 ?_
    refine lv_ddiv hx hb dQ_atMark_25 (by rw [← ht]; exact (tv_P hr9 hj9).n) ?_
    exact ct_dret hx hb hr hlocks hP hK hD hS (ht.symm) dQ_atMark_26
  · have h4 : r < 4 := Nat.lt_of_not_le fun h => c_1 ((nI_leI (a := 4) (b := r) (by decide) (by omega)).mpr h)
    have ht : tv r j = FP.ddiv (FP.i2d (nI (tb_TB (r * 9 + j)))) 4620693217682128896 := by unfold tv; rw [if_pos h4]
    refine lv_ldc2d hx hb hown (hts _ tw_d_Q_43) dQ_atMark_16 ?_
    refine lv_goto (tgt := 25) hx hb dQ_atMark_19 (by decide) ?_
    refine lv_ddiv hx hb dQ_atMark_25 (by rw [← ht]; exact (tv_P hr9 hj9).n) ?_
    exact ct_dret hx hb hr hlocks hP hK hD hS (ht.symm) dQ_atMark_26

set_option maxHeartbeats 4000000 in
set_option maxRecDepth 100000 in
/-- between two marks -/
theorem cQ_between (l : Launch) (dC : Nat → ClassId) (dI : Nat → Nat → Nat) (tt : Nat → Nat) (sz : Nat) (q0 q1 : Nat) (cq : ClassId) (rv : Nat → UInt64) (ra : UInt64) (r : Nat) (hr9 : r < 9) (hra : ft_P ra) (hj8 : mk ra < 8) : Ct l dC dI tt yQ_between bQ_between 9 (some .double) ({ frames := 1, cells := 0, slots := 0, locals := 21 }) (tQ cq) [.ref q0, .int (nI r), .int (nI (mk ra))] (wQ q0 q1 cq rv ra) sz (fun A => ctQd dC dI (tQ cq) (rwv ra r (mk ra)) (wQ q0 q1 cq rv ra) A) := by
  refine ct_of (by decide) (Nat.le_of_ble_eq_true rfl) ?_
  intro p e s m below meth c A ls hx hb hr hts hown hml hlocks hnm hA hS hP hK hD hT hl
  have hl : lv_has ls 9 [(0, .ref q0), (1, .int (nI r)), (2, .int (nI (mk ra)))] := hl
  have hok := rw_ok hra hr9 hj8
  refine lv_iload_n hx hb dQ_between_0 rfl (lv_at hl 1 rfl) ?_
  refine lv_iload_n hx hb dQ_between_1 rfl (lv_at hl 2 rfl) ?_
  refine ct_csd (As := [.int (nI r), .int (nI (mk ra))]) (rest := []) (wr := (wQ q0 q1 cq rv ra)) ⟨hx, hb, hml, hown, hts⟩ (cQ_atMark l dC dI tt _ r (mk ra) hr9 (by omega)) (gT_S tw_m_Q_30 tw_st_yQ_atMark tw_I_Q tw_c_yQ_atMark) ⟨by decide +kernel, by decide +kernel, (by decide +kernel : (parseMethodDescriptor yQ_atMark.desc).map (fun d => d.parameters.length) = some 2)⟩ ⟨by decide, by decide⟩ hP hD hK hS hA hT [0, 1] rfl (by decide) hl.1 rfl (Nat.le_of_ble_eq_true rfl) dQ_between_2 ⟨by decide, by decide⟩ (fun H locs hP hD hS => ?_)
  refine lv_dstore_n (lv' := [(3, .double (tv r (mk ra))), (0, .ref q0), (1, .int (nI r)), (2, .int (nI (mk ra)))]) hx hb dQ_between_5 rfl hl (by decide) rfl (fun ls hl => ?_)
  refine lv_iload_n hx hb dQ_between_6 rfl (lv_at hl 2 rfl) ?_
  refine lv_iload_n hx hb dQ_between_7 rfl (lv_at hl 3 rfl) ?_
  refine lv_iconst (v := 1) hx hb dQ_between_8 (by decide) ?_
  refine lv_iadd hx hb dQ_between_9 ?_
  refine ct_topi (y := nI (mk ra + 1)) (nI_1 _) ?_
  refine ct_csd (As := [.int (nI r), .int (nI (mk ra + 1))]) (rest := []) (wr := (wQ q0 q1 cq rv ra)) ⟨hx, hb, hml, hown, hts⟩ (cQ_atMark l dC dI tt _ r (mk ra + 1) hr9 (by omega)) (gT_S tw_m_Q_30 tw_st_yQ_atMark tw_I_Q tw_c_yQ_atMark) ⟨by decide +kernel, by decide +kernel, (by decide +kernel : (parseMethodDescriptor yQ_atMark.desc).map (fun d => d.parameters.length) = some 2)⟩ ⟨by decide, by decide⟩ hP hD hK hS hA hT [0, 1] rfl (by decide) hl.1 rfl (Nat.le_of_ble_eq_true rfl) dQ_between_10 ⟨by decide, by decide⟩ (fun H locs hP hD hS => ?_)
  refine lv_dstore (lv' := [(5, .double (tv r (mk ra + 1))), (3, .double (tv r (mk ra))), (0, .ref q0), (1, .int (nI r)), (2, .int (nI (mk ra)))]) hx hb dQ_between_13 hl (by decide) rfl (fun ls hl => ?_)
  refine va_gets hx hb hT.2.2.1.1 hS hown (hts _ tw_f_Q_36) (fun _ h9 => h9) dQ_between_15 ?_
  refine lv_iload_n hx hb dQ_between_18 rfl (lv_at hl 4 rfl) ?_
  refine ct_tab (k := (mk ra)) (v := nI (tb_MD (mk ra))) hx hb hT.2.2.1 hS (vp_in_nI (by omega) (by decide)) (nI_clamp (nI_mk ra)) (rfl) dQ_between_19 ?_
  refine lv_istore (lv' := [(7, .int (nI (tb_MD (mk ra)))), (5, .double (tv r (mk ra + 1))), (3, .double (tv r (mk ra))), (0, .ref q0), (1, .int (nI r)), (2, .int (nI (mk ra)))]) hx hb dQ_between_20 hl (by decide) rfl (fun ls hl => ?_)
  refine va_gets hx hb hT.2.2.1.1 hS hown (hts _ tw_f_Q_36) (fun _ h9 => h9) dQ_between_22 ?_
  refine lv_iload_n hx hb dQ_between_25 rfl (lv_at hl 5 rfl) ?_
  refine lv_iconst (v := 1) hx hb dQ_between_26 (by decide) ?_
  refine lv_iadd hx hb dQ_between_27 ?_
  refine ct_topi (y := nI (mk ra + 1)) (nI_1 _) ?_
  refine ct_tab (k := (mk ra + 1)) (v := nI (tb_MD (mk ra + 1))) hx hb hT.2.2.1 hS (vp_in_nI (by omega) (by decide)) (nI_clamp (by omega)) (rfl) dQ_between_28 ?_
  refine lv_istore (lv' := [(8, .int (nI (tb_MD (mk ra + 1)))), (7, .int (nI (tb_MD (mk ra)))), (5, .double (tv r (mk ra + 1))), (3, .double (tv r (mk ra))), (0, .ref q0), (1, .int (nI r)), (2, .int (nI (mk ra)))]) hx hb dQ_between_29 hl (by decide) rfl (fun ls hl => ?_)
  refine lv_dload_n hx hb dQ_between_31 rfl (lv_at hl 3 rfl) ?_
  refine lv_dload hx hb dQ_between_32 (lv_at hl 2 rfl) ?_
  refine lv_dload_n hx hb dQ_between_34 rfl (lv_at hl 3 rfl) ?_
  refine lv_dsub hx hb dQ_between_35 (hok.1) ?_
  refine lv_aload_n hx hb dQ_between_36 rfl (lv_at hl 4 rfl) ?_
  refine va_get (D := (dC, dI)) (ci := 2) (v := .double ra) (C := "MashEnzymes$Rows") (T := F_Q) (N := 2) hx hb hts in_Q hown hK hP 0 rfl rfl 1 (by decide) (hts _ tw_f_Q_18) (fun _ h9 => h9) rfl dQ_between_37 ?_
  refine lv_iload hx hb dQ_between_40 (lv_at hl 1 rfl) ?_
  refine lv_i2d hx hb dQ_between_42 ?_
  refine lv_dsub hx hb dQ_between_43 (hok.2.1) ?_
  refine lv_dmul hx hb dQ_between_44 (hok.2.2.1) ?_
  refine lv_iload hx hb dQ_between_45 (lv_at hl 0 rfl) ?_
  refine lv_iload hx hb dQ_between_47 (lv_at hl 1 rfl) ?_
  refine lv_isub hx hb dQ_between_49 ?_
  refine lv_i2d hx hb dQ_between_50 ?_
  refine lv_ddiv hx hb dQ_between_51 (hok.2.2.2.1) ?_
  refine lv_dadd hx hb dQ_between_52 (hok.2.2.2.2.1.n) ?_
  exact ct_dret hx hb hr hlocks hP hK hD hS (by unfold rwv; rw [if_pos hj8]) dQ_between_53

set_option maxHeartbeats 4000000 in
set_option maxRecDepth 100000 in
/-- a row at the rows' temperature -/
theorem cQ_valueFrom (l : Launch) (dC : Nat → ClassId) (dI : Nat → Nat → Nat) (tt : Nat → Nat) (sz : Nat) (q0 q1 : Nat) (cq : ClassId) (rv : Nat → UInt64) (ra : UInt64) (r : Nat) (hr9 : r < 9) (hra : ft_P ra) : Ct l dC dI tt yQ_valueFrom bQ_valueFrom 3 (some .double) ({ frames := 2, cells := 0, slots := 0, locals := 49 }) (tQ cq) [.ref q0, .int (nI r), .int (nI (mk ra))] (wQ q0 q1 cq rv ra) sz (fun A => ctQd dC dI (tQ cq) (rwv ra r (mk ra)) (wQ q0 q1 cq rv ra) A) := by
  refine ct_of (by decide) (Nat.le_of_ble_eq_true rfl) ?_
  intro p e s m below meth c A ls hx hb hr hts hown hml hlocks hnm hA hS hP hK hD hT hl
  have hl : lv_has ls 3 [(0, .ref q0), (1, .int (nI r)), (2, .int (nI (mk ra)))] := hl
  refine lv_iload_n hx hb dQ_valueFrom_0 rfl (lv_at hl 2 rfl) ?_
  refine lv_if_ge (tgt := 10) hx hb dQ_valueFrom_1 (by decide) (fun c_1 => ?_) (fun c_1 => ?_)
  · refine lv_iload_n hx hb dQ_valueFrom_10 rfl (lv_at hl 2 rfl) ?_
    refine lv_bipush (v := 8) hx hb dQ_valueFrom_11 (by decide) ?_
    refine lv_icmp_ge (tgt := 25) hx hb dQ_valueFrom_13 (by decide) (fun c_2 => ?_) (fun c_2 => ?_)
    · have hm : ¬ mk ra < 8 := fun h => by have := (nI_leI (a := 8) (b := mk ra) (by decide) (nI_mk ra)).mp c_2; omega
      refine lv_iload_n hx hb dQ_valueFrom_25 rfl (lv_at hl 1 rfl) ?_
      refine lv_bipush (v := 8) hx hb dQ_valueFrom_26 (by decide) ?_
      refine ct_csd (As := [.int (nI r), .int 8]) (rest := []) (wr := (wQ q0 q1 cq rv ra)) ⟨hx, hb, hml, hown, hts⟩ (cQ_atMark l dC dI tt _ r 8 hr9 (by decide)) (gT_S tw_m_Q_30 tw_st_yQ_atMark tw_I_Q tw_c_yQ_atMark) ⟨by decide +kernel, by decide +kernel, (by decide +kernel : (parseMethodDescriptor yQ_atMark.desc).map (fun d => d.parameters.length) = some 2)⟩ ⟨by decide, by decide⟩ hP hD hK hS hA hT [0, 1] rfl (by decide) hl.1 rfl (Nat.le_of_ble_eq_true rfl) dQ_valueFrom_28 ⟨by decide, by decide⟩ (fun H locs hP hD hS => ?_)
      exact ct_dret hx hb hr hlocks hP hK hD hS (by unfold rwv; rw [if_neg hm]) dQ_valueFrom_31
    · have hm : mk ra < 8 := Nat.lt_of_not_le fun h => c_2 ((nI_leI (a := 8) (b := mk ra) (by decide) (nI_mk ra)).mpr h)
      refine lv_aload_n hx hb dQ_valueFrom_16 rfl (lv_at hl 0 rfl) ?_
      refine lv_iload_n hx hb dQ_valueFrom_17 rfl (lv_at hl 1 rfl) ?_
      refine lv_iload_n hx hb dQ_valueFrom_18 rfl (lv_at hl 2 rfl) ?_
      refine ct_cvd (As := [.int (nI r), .int (nI (mk ra))]) (rest := []) (wr := []) (w1 := (wQ q0 q1 cq rv ra)) ⟨hx, hb, hml, hown, hts⟩ (cQ_between l dC dI tt _ q0 q1 cq rv ra r hr9 hra hm) (gT_V tw_m_Q_33 tw_i_yQ_between tw_s_yQ_between tw_I_Q tw_c_yQ_between) ⟨rfl, by decide +kernel, by decide +kernel, (by decide +kernel : (parseMethodDescriptor yQ_between.desc).map (fun d => d.parameters.length) = some 2)⟩ ⟨by decide, by decide⟩ (ci := 2) rfl rfl rfl hP hD hK hS hA hT [0, 1] [] [0] (by decide) rfl rfl (by decide) (by decide) rfl hl.1 rfl (Nat.le_of_ble_eq_true rfl) dQ_valueFrom_19 ⟨by decide, by decide⟩ (fun H locs hP hD hS => ?_)
      have hP : va_P (dC, dI) cls (wQ q0 q1 cq rv ra) H := hP
      have hD : va_D A (wQ q0 q1 cq rv ra) := hD
      refine lv_goto (tgt := 31) hx hb dQ_valueFrom_22 (by decide) ?_
      exact ct_dret hx hb hr hlocks hP hK hD hS (rfl) dQ_valueFrom_31
  · exact absurd (nI_pos' (nI_mk ra)) c_1

set_option maxHeartbeats 4000000 in
set_option maxRecDepth 100000 in
/-- the mark -/
theorem cQ_markNotAbove (l : Launch) (dC : Nat → ClassId) (dI : Nat → Nat → Nat) (tt : Nat → Nat) (sz : Nat) (q0 q1 : Nat) (cq : ClassId) (rv : Nat → UInt64) (ra : UInt64) (hra : ft_P ra) : Ct l dC dI tt yQ_markNotAbove bQ_markNotAbove 2 (some .int) ({ frames := 0, cells := 0, slots := 0, locals := 0 }) (tQ cq) [.ref q0] (wQ q0 q1 cq rv ra) sz (fun A => ctQi dC dI (tQ cq) (nI (mk ra)) (wQ q0 q1 cq rv ra) A) := by
  refine ct_of (by decide) (Nat.le_of_ble_eq_true rfl) ?_
  intro p e s m below meth c A ls hx hb hr hts hown hml hlocks hnm hA hS hP hK hD hT hl
  have hl : lv_has ls 2 [(0, .ref q0)] := hl
  have key : ∀ (n j : Nat) (ls : Array Slot), n + j = 8 → mkN ra n j = mk ra → lv_has ls 2 [(1, .int (nI j)), (0, .ref q0)] → W p l e ({ frames := 0, cells := 0, slots := 0, locals := 0 } : Room) s m ([.ref q0] : List Value).toArray below meth c s.heap [] 0 0 (MQ below (ctQi dC dI (tQ cq) (nI (mk ra)) (wQ q0 q1 cq rv ra) A) ([.ref q0] : List Value).toArray s 0 0 A) (F0 m 2 ls []) := by
    intro n
    induction n with
    | zero =>
      intro j ls hn hm hl
      have hj : j = 8 := by omega
      refine lv_iload_n hx hb dQ_markNotAbove_2 rfl (lv_at hl 0 rfl) ?_
      refine lv_bipush (v := 8) hx hb dQ_markNotAbove_3 (by decide) ?_
      refine lv_icmp_ge (tgt := 31) hx hb dQ_markNotAbove_5 (by decide) (fun c_1 => ?_) (fun c_1 => ?_)
      · have hmj : j = mk ra := hm
        refine lv_iload_n hx hb dQ_markNotAbove_31 rfl (lv_at hl 0 rfl) ?_
        exact ct_iret hx hb hr rfl hlocks hP hK hD hS (by rw [hmj]) dQ_markNotAbove_32
      · exact absurd (nI_le (a := 8) (b := j) (by omega) (by omega)) c_1
    | succ n ih =>
      intro j ls hn hm hl
      have hj : j < 8 := by omega
      refine lv_iload_n hx hb dQ_markNotAbove_2 rfl (lv_at hl 0 rfl) ?_
      refine lv_bipush (v := 8) hx hb dQ_markNotAbove_3 (by decide) ?_
      refine lv_icmp_ge (tgt := 31) hx hb dQ_markNotAbove_5 (by decide) (fun c_2 => ?_) (fun c_2 => ?_)
      · exact absurd ((nI_leI (a := 8) (b := j) (by decide) (by omega)).mp c_2) (by omega)
      · refine va_gets hx hb hT.2.2.1.1 hS hown (hts _ tw_f_Q_36) (fun _ h9 => h9) dQ_markNotAbove_8 ?_
        refine lv_iload_n hx hb dQ_markNotAbove_11 rfl (lv_at hl 0 rfl) ?_
        refine lv_iconst (v := 1) hx hb dQ_markNotAbove_12 (by decide) ?_
        refine lv_iadd hx hb dQ_markNotAbove_13 ?_
        refine ct_topi (y := nI (j + 1)) (nI_1 j) ?_
        refine ct_tab (k := (j + 1)) (v := nI (tb_MD (j + 1))) hx hb hT.2.2.1 hS (vp_in_nI (by omega) (by decide)) (nI_clamp (by omega)) (rfl) dQ_markNotAbove_14 ?_
        refine lv_i2d hx hb dQ_markNotAbove_15 ?_
        refine lv_aload_n hx hb dQ_markNotAbove_16 rfl (lv_at hl 1 rfl) ?_
        refine va_get (D := (dC, dI)) (ci := 2) (v := .double ra) (C := "MashEnzymes$Rows") (T := F_Q) (N := 2) hx hb hts in_Q hown hK hP 0 rfl rfl 1 (by decide) (hts _ tw_f_Q_18) (fun _ h9 => h9) rfl dQ_markNotAbove_17 ?_
        refine lv_dcmp hx hb dQ_markNotAbove_20 ?_
        refine lv_if_gt (tgt := 31) hx hb dQ_markNotAbove_21 (by decide) (fun c_3 => ?_) (fun c_3 => ?_)
        · have hg := (ft_g (md_P (by omega)) hra).mp c_3
          have hmj : j = mk ra := by unfold mkN at hm; rw [if_pos hg] at hm; exact hm
          refine lv_iload_n hx hb dQ_markNotAbove_31 rfl (lv_at hl 0 rfl) ?_
          exact ct_iret hx hb hr rfl hlocks hP hK hD hS (by rw [hmj]) dQ_markNotAbove_32
        · have hg : ¬ FP.dcmp (FP.i2d (nI (tb_MD (j + 1)))) ra = some .gt := fun h => c_3 ((ft_g (md_P (by omega)) hra).mpr h)
          unfold mkN at hm
          rw [if_neg hg] at hm
          refine lv_iload_n hx hb dQ_markNotAbove_24 rfl (lv_at hl 0 rfl) ?_
          refine lv_iconst (v := 1) hx hb dQ_markNotAbove_25 (by decide) ?_
          refine lv_iadd hx hb dQ_markNotAbove_26 ?_
          refine ct_topi (y := nI (j + 1)) (nI_1 j) ?_
          refine lv_istore_n (lv' := [(1, .int (nI (j + 1))), (0, .ref q0)]) hx hb dQ_markNotAbove_27 rfl hl (by decide) rfl (fun ls hl => ?_)
          refine lv_goto (tgt := 2) hx hb dQ_markNotAbove_28 (by decide) ?_
          exact ih (j + 1) ls (by omega) hm hl
  refine lv_iconst (v := (-1)) hx hb dQ_markNotAbove_0 (by decide) ?_
  refine lv_istore_n (lv' := [(1, .int (-1)), (0, .ref q0)]) hx hb dQ_markNotAbove_1 rfl hl (by decide) rfl (fun ls hl => ?_)
  refine lv_iload_n hx hb dQ_markNotAbove_2 rfl (lv_at hl 0 rfl) ?_
  refine lv_bipush (v := 8) hx hb dQ_markNotAbove_3 (by decide) ?_
  refine lv_icmp_ge (tgt := 31) hx hb dQ_markNotAbove_5 (by decide) (fun c_4 => ?_) (fun c_4 => ?_)
  · exact absurd c_4 (by decide)
  · refine va_gets hx hb hT.2.2.1.1 hS hown (hts _ tw_f_Q_36) (fun _ h9 => h9) dQ_markNotAbove_8 ?_
    refine lv_iload_n hx hb dQ_markNotAbove_11 rfl (lv_at hl 0 rfl) ?_
    refine lv_iconst (v := 1) hx hb dQ_markNotAbove_12 (by decide) ?_
    refine lv_iadd hx hb dQ_markNotAbove_13 ?_
    refine ct_topi (y := 0) (by decide) ?_
    refine ct_tab (k := 0) (v := nI (tb_MD 0)) hx hb hT.2.2.1 hS (by unfold vp_in; decide) (rfl) (rfl) dQ_markNotAbove_14 ?_
    refine lv_i2d hx hb dQ_markNotAbove_15 ?_
    refine lv_aload_n hx hb dQ_markNotAbove_16 rfl (lv_at hl 1 rfl) ?_
    refine va_get (D := (dC, dI)) (ci := 2) (v := .double ra) (C := "MashEnzymes$Rows") (T := F_Q) (N := 2) hx hb hts in_Q hown hK hP 0 rfl rfl 1 (by decide) (hts _ tw_f_Q_18) (fun _ h9 => h9) rfl dQ_markNotAbove_17 ?_
    refine lv_dcmp hx hb dQ_markNotAbove_20 ?_
    refine lv_if_gt (tgt := 31) hx hb dQ_markNotAbove_21 (by decide) (fun c_5 => ?_) (fun c_5 => ?_)
    · exact absurd c_5 (mk_first hra)
    · refine lv_iload_n hx hb dQ_markNotAbove_24 rfl (lv_at hl 0 rfl) ?_
      refine lv_iconst (v := 1) hx hb dQ_markNotAbove_25 (by decide) ?_
      refine lv_iadd hx hb dQ_markNotAbove_26 ?_
      refine ct_topi (y := nI 0) (by decide) ?_
      refine lv_istore_n (lv' := [(1, .int (nI 0)), (0, .ref q0)]) hx hb dQ_markNotAbove_27 rfl hl (by decide) rfl (fun ls hl => ?_)
      refine lv_goto (tgt := 2) hx hb dQ_markNotAbove_28 (by decide) ?_
      exact key 8 0 ls rfl rfl hl

set_option maxHeartbeats 4000000 in
set_option maxRecDepth 100000 in
/-- all rows anew -/
theorem cQ_reckonValues (l : Launch) (dC : Nat → ClassId) (dI : Nat → Nat → Nat) (tt : Nat → Nat) (sz : Nat) (q0 q1 : Nat) (cq : ClassId) (rv : Nat → UInt64) (ra : UInt64) (hra : ft_P ra) : Ct l dC dI tt yQ_reckonValues bQ_reckonValues 3 none ({ frames := 3, cells := 0, slots := 0, locals := 71 }) (tQ cq) [.ref q0] (wQ q0 q1 cq rv ra) sz (fun A => ctQv dC dI (tQ cq) (wQ q0 q1 cq (rwA ra 9 rv) ra) A) := by
  refine ct_of (by decide) (Nat.le_of_ble_eq_true rfl) ?_
  intro p e s m below meth c A ls hx hb hr hts hown hml hlocks hnm hA hS hP hK hD hT hl
  have hl : lv_has ls 3 [(0, .ref q0)] := hl
  have key : ∀ (n i : Nat) (ls : Array Slot) (H : Heap) (locs : List Loc), n + i = 9 → va_P (dC, dI) cls (wQ q0 q1 cq (rwA ra i rv) ra) H → va_D A (wQ q0 q1 cq (rwA ra i rv) ra) → va_S A s.heap H locs → lv_has ls 3 [(2, .int (nI i)), (1, .int (nI (mk ra))), (0, .ref q0)] → W p l e ({ frames := 3, cells := 0, slots := 0, locals := 71 } : Room) s m ([.ref q0] : List Value).toArray below meth c H locs 0 0 (MQ below (ctQv dC dI (tQ cq) (wQ q0 q1 cq (rwA ra 9 rv) ra) A) ([.ref q0] : List Value).toArray s 0 0 A) (F0 m 7 ls []) := by
    intro n
    induction n with
    | zero =>
      intro i ls H locs hn hP hD hS hl
      refine lv_iload_n hx hb dQ_reckonValues_7 rfl (lv_at hl 0 rfl) ?_
      refine lv_bipush (v := 9) hx hb dQ_reckonValues_8 (by decide) ?_
      refine lv_icmp_ge (tgt := 31) hx hb dQ_reckonValues_10 (by decide) (fun c_1 => ?_) (fun c_1 => ?_)
      · have hi : i = 9 := by omega
        subst hi
        exact ct_vret hx hb hr hlocks hP hK hD hS dQ_reckonValues_31
      · exact absurd (nI_le (a := 9) (b := i) (by omega) (by omega)) c_1
    | succ n ih =>
      intro i ls H locs hn hP hD hS hl
      refine lv_iload_n hx hb dQ_reckonValues_7 rfl (lv_at hl 0 rfl) ?_
      refine lv_bipush (v := 9) hx hb dQ_reckonValues_8 (by decide) ?_
      refine lv_icmp_ge (tgt := 31) hx hb dQ_reckonValues_10 (by decide) (fun c_2 => ?_) (fun c_2 => ?_)
      · exact absurd ((nI_leI (a := 9) (b := i) (by decide) (by omega)).mp c_2) (by omega)
      · refine lv_aload_n hx hb dQ_reckonValues_13 rfl (lv_at hl 2 rfl) ?_
        refine va_get (D := (dC, dI)) (ci := 2) (v := .ref q1) (C := "MashEnzymes$Rows") (T := F_Q) (N := 2) hx hb hts in_Q hown hK hP 0 rfl rfl 0 (by decide) (hts _ tw_f_Q_11) (fun _ h9 => h9) rfl dQ_reckonValues_14 ?_
        refine lv_iload_n hx hb dQ_reckonValues_17 rfl (lv_at hl 0 rfl) ?_
        refine lv_aload_n hx hb dQ_reckonValues_18 rfl (lv_at hl 2 rfl) ?_
        refine lv_iload_n hx hb dQ_reckonValues_19 rfl (lv_at hl 0 rfl) ?_
        refine lv_iload_n hx hb dQ_reckonValues_20 rfl (lv_at hl 1 rfl) ?_
        refine ct_cvd (As := [.int (nI i), .int (nI (mk ra))]) (rest := [.int (nI i), .ref q1]) (wr := []) (w1 := (wQ q0 q1 cq (rwA ra i rv) ra)) ⟨hx, hb, hml, hown, hts⟩ (cQ_valueFrom l dC dI tt _ q0 q1 cq (rwA ra i rv) ra i (by omega) hra) (gT_V tw_m_Q_26 tw_i_yQ_valueFrom tw_s_yQ_valueFrom tw_I_Q tw_c_yQ_valueFrom) ⟨rfl, by decide +kernel, by decide +kernel, (by decide +kernel : (parseMethodDescriptor yQ_valueFrom.desc).map (fun d => d.parameters.length) = some 2)⟩ ⟨by decide, by decide⟩ (ci := 2) rfl rfl rfl hP hD hK hS hA hT [0, 1] [] [0] (by decide) rfl rfl (by decide) (by decide) rfl hl.1 rfl (Nat.le_of_ble_eq_true rfl) dQ_reckonValues_21 ⟨by decide, by decide⟩ (fun H locs hP hD hS => ?_)
        have hP : va_P (dC, dI) cls (wQ q0 q1 cq (rwA ra i rv) ra) H := hP
        have hD : va_D A (wQ q0 q1 cq (rwA ra i rv) ra) := hD
        refine ct_dast (k := i) (w1 := (wQ q0 q1 cq (rwA ra (i + 1) rv) ra)) hx hb hK hP hD hS 1 0 rfl rfl (vp_in_nI (by omega) (by decide)) (nI_clamp (by omega)) (by rw [← rwA_s]; rfl) dQ_reckonValues_24 (fun H locs hP hD hS => ?_)
        refine lv_iinc (v := (nI (i + 1))) (lv' := [(2, .int (nI (i + 1))), (1, .int (nI (mk ra))), (0, .ref q0)]) hx hb dQ_reckonValues_25 hl (k := 0) rfl (nI_1 i) (by decide) rfl (fun ls hl => ?_)
        refine lv_goto (tgt := 7) hx hb dQ_reckonValues_28 (by decide) ?_
        exact ih (i + 1) ls H locs (by omega) hP hD hS (lv_sub hl [0, 1, 2] rfl)
  refine lv_aload_n hx hb dQ_reckonValues_0 rfl (lv_at hl 0 rfl) ?_
  refine ct_cvi (As := []) (rest := []) (wr := []) (w1 := (wQ q0 q1 cq rv ra)) ⟨hx, hb, hml, hown, hts⟩ (cQ_markNotAbove l dC dI tt _ q0 q1 cq rv ra hra) (gT_V tw_m_Q_22 tw_i_yQ_markNotAbove tw_s_yQ_markNotAbove tw_I_Q tw_c_yQ_markNotAbove) ⟨rfl, by decide +kernel, by decide +kernel, (by decide +kernel : (parseMethodDescriptor yQ_markNotAbove.desc).map (fun d => d.parameters.length) = some 0)⟩ ⟨by decide, by decide⟩ (ci := 2) rfl rfl rfl hP hD hK hS hA hT [0, 1] [] [0] (by decide) rfl rfl (by decide) (by decide) rfl hl.1 rfl (Nat.le_of_ble_eq_true rfl) dQ_reckonValues_1 ⟨by decide, by decide⟩ (fun H locs hP hD hS => ?_)
  have hP : va_P (dC, dI) cls (wQ q0 q1 cq rv ra) H := hP
  have hD : va_D A (wQ q0 q1 cq rv ra) := hD
  refine lv_istore_n (lv' := [(1, .int (nI (mk ra))), (0, .ref q0)]) hx hb dQ_reckonValues_4 rfl hl (by decide) rfl (fun ls hl => ?_)
  refine lv_iconst (v := 0) hx hb dQ_reckonValues_5 (by decide) ?_
  refine ct_topi (y := nI 0) (rfl) ?_
  refine lv_istore_n (lv' := [(2, .int (nI 0)), (1, .int (nI (mk ra))), (0, .ref q0)]) hx hb dQ_reckonValues_6 rfl hl (by decide) rfl (fun ls hl => ?_)
  rw [← rwA_0 ra rv] at hP hD
  exact key 9 0 ls H locs rfl hP hD hS (lv_sub hl [0, 1, 2] rfl)

set_option maxHeartbeats 4000000 in
set_option maxRecDepth 100000 in
/-- the rows at T -/
theorem cQ_moveTo (l : Launch) (dC : Nat → ClassId) (dI : Nat → Nat → Nat) (tt : Nat → Nat) (sz : Nat) (q0 q1 : Nat) (cq : ClassId) (rv : Nat → UInt64) (ra T : UInt64) (hra : ft_P ra) (hT9 : ft_P T) (hrv : ∀ k, k < 9 → rv k = rwv ra k (mk ra)) : Ct l dC dI tt yQ_moveTo bQ_moveTo 3 none ({ frames := 4, cells := 0, slots := 0, locals := 93 }) (tQ cq) [.ref q0, .double T] (wQ q0 q1 cq rv ra) sz (fun A => ctQv dC dI (tQ cq) (wQ q0 q1 cq (rwA T 9 rv) T) A) := by
  refine ct_of (by decide) (Nat.le_of_ble_eq_true rfl) ?_
  intro p e s m below meth c A ls hx hb hr hts hown hml hlocks hnm hA hS hP hK hD hT hl
  have hl : lv_has ls 3 [(0, .ref q0), (1, .double T)] := hl
  refine lv_dload_n hx hb dQ_moveTo_0 rfl (lv_at hl 1 rfl) ?_
  refine lv_aload_n hx hb dQ_moveTo_1 rfl (lv_at hl 0 rfl) ?_
  refine va_get (D := (dC, dI)) (ci := 2) (v := .double ra) (C := "MashEnzymes$Rows") (T := F_Q) (N := 2) hx hb hts in_Q hown hK hP 0 rfl rfl 1 (by decide) (hts _ tw_f_Q_18) (fun _ h9 => h9) rfl dQ_moveTo_2 ?_
  refine lv_dcmp hx hb dQ_moveTo_5 ?_
  refine lv_if_eq (tgt := 18) hx hb dQ_moveTo_6 (by decide) (fun c_1 => ?_) (fun c_1 => ?_)
  · have he : T = ra := ft_inj hT9 hra ((cv_l_eq _).mp c_1)
    subst he
    rw [← rwA_same hrv] at hP hD
    exact ct_vret hx hb hr hlocks hP hK hD hS dQ_moveTo_18
  · refine lv_aload_n hx hb dQ_moveTo_9 rfl (lv_at hl 0 rfl) ?_
    refine lv_dload_n hx hb dQ_moveTo_10 rfl (lv_at hl 1 rfl) ?_
    refine va_put (D := (dC, dI)) (ci := 2) (v := .double T) (ty := .double) (C := "MashEnzymes$Rows") (T := F_Q) (N := 2) hx hb hts in_Q t_Q t_Q_ok n_Q hown hK hP hD hS 0 rfl rfl 1 (by decide) (hts _ tw_f_Q_18) (fun _ h9 => h9) rfl (by decide +kernel) rfl rfl (Nat.le_of_ble_eq_true rfl) dQ_moveTo_11 (fun H locs hP hD hS => ?_)
    have hP : va_P (dC, dI) cls (wQ q0 q1 cq rv T) H := hP
    have hD : va_D A (wQ q0 q1 cq rv T) := hD
    refine lv_aload_n hx hb dQ_moveTo_14 rfl (lv_at hl 0 rfl) ?_
    refine ct_cvv (As := []) (rest := []) (wr := []) (w1 := (wQ q0 q1 cq (rwA T 9 rv) T)) ⟨hx, hb, hml, hown, hts⟩ (cQ_reckonValues l dC dI tt _ q0 q1 cq rv T hT9) (gT_V tw_m_Q_15 tw_i_yQ_reckonValues tw_s_yQ_reckonValues tw_I_Q tw_c_yQ_reckonValues) ⟨rfl, by decide +kernel, by decide +kernel, (by decide +kernel : (parseMethodDescriptor yQ_reckonValues.desc).map (fun d => d.parameters.length) = some 0)⟩ ⟨by decide, by decide⟩ (ci := 2) rfl rfl rfl hP hD hK hS hA hT [0, 1] [] [0] (by decide) rfl rfl (by decide) (by decide) rfl hl.1 rfl (Nat.le_of_ble_eq_true rfl) dQ_moveTo_15 ⟨by decide, by decide⟩ (fun H locs hP hD hS => ?_)
    have hP : va_P (dC, dI) cls (wQ q0 q1 cq (rwA T 9 rv) T) H := hP
    have hD : va_D A (wQ q0 q1 cq (rwA T 9 rv) T) := hD
    exact ct_vret hx hb hr hlocks hP hK hD hS dQ_moveTo_18

set_option maxHeartbeats 4000000 in
set_option maxRecDepth 100000 in
/-- rate -/
theorem cQ_rate (l : Launch) (dC : Nat → ClassId) (dI : Nat → Nat → Nat) (tt : Nat → Nat) (sz : Nat) (q0 q1 : Nat) (cq : ClassId) (rv : Nat → UInt64) (ra : UInt64) (e0 : Nat) (he0 : e0 < 4) : Ct l dC dI tt yQ_rate bQ_rate 2 (some .double) ({ frames := 0, cells := 0, slots := 0, locals := 0 }) (tQ cq) [.ref q0, .int (nI e0)] (wQ q0 q1 cq rv ra) sz (fun A => ctQd dC dI (tQ cq) (rv (e0)) (wQ q0 q1 cq rv ra) A) := by
  refine ct_of (by decide) (Nat.le_of_ble_eq_true rfl) ?_
  intro p e s m below meth c A ls hx hb hr hts hown hml hlocks hnm hA hS hP hK hD hT hl
  have hl : lv_has ls 2 [(0, .ref q0), (1, .int (nI e0))] := hl
  refine lv_aload_n hx hb dQ_rate_0 rfl (lv_at hl 0 rfl) ?_
  refine va_get (D := (dC, dI)) (ci := 2) (v := .ref q1) (C := "MashEnzymes$Rows") (T := F_Q) (N := 2) hx hb hts in_Q hown hK hP 0 rfl rfl 0 (by decide) (hts _ tw_f_Q_11) (fun _ h9 => h9) rfl dQ_rate_1 ?_
  refine lv_iconst (v := 0) hx hb dQ_rate_4 (by decide) ?_
  refine lv_iload_n hx hb dQ_rate_5 rfl (lv_at hl 1 rfl) ?_
  refine lv_iadd hx hb dQ_rate_6 ?_
  refine ct_topi (y := nI e0) (by rw [show (0 : Int32) = nI 0 from rfl, nI_add, Nat.zero_add]) ?_
  refine ct_dald (k := e0) (v := rv e0) hx hb hK hP 1 0 rfl rfl (vp_in_nI (by omega) (by decide)) (nI_clamp (by omega)) (rfl) dQ_rate_7 ?_
  exact ct_dret hx hb hr hlocks hP hK hD hS (rfl) dQ_rate_8

set_option maxHeartbeats 4000000 in
set_option maxRecDepth 100000 in
/-- decay -/
theorem cQ_decay (l : Launch) (dC : Nat → ClassId) (dI : Nat → Nat → Nat) (tt : Nat → Nat) (sz : Nat) (q0 q1 : Nat) (cq : ClassId) (rv : Nat → UInt64) (ra : UInt64) (e0 : Nat) (he0 : e0 < 4) : Ct l dC dI tt yQ_decay bQ_decay 2 (some .double) ({ frames := 0, cells := 0, slots := 0, locals := 0 }) (tQ cq) [.ref q0, .int (nI e0)] (wQ q0 q1 cq rv ra) sz (fun A => ctQd dC dI (tQ cq) (rv (4 + e0)) (wQ q0 q1 cq rv ra) A) := by
  refine ct_of (by decide) (Nat.le_of_ble_eq_true rfl) ?_
  intro p e s m below meth c A ls hx hb hr hts hown hml hlocks hnm hA hS hP hK hD hT hl
  have hl : lv_has ls 2 [(0, .ref q0), (1, .int (nI e0))] := hl
  refine lv_aload_n hx hb dQ_decay_0 rfl (lv_at hl 0 rfl) ?_
  refine va_get (D := (dC, dI)) (ci := 2) (v := .ref q1) (C := "MashEnzymes$Rows") (T := F_Q) (N := 2) hx hb hts in_Q hown hK hP 0 rfl rfl 0 (by decide) (hts _ tw_f_Q_11) (fun _ h9 => h9) rfl dQ_decay_1 ?_
  refine lv_iconst (v := 4) hx hb dQ_decay_4 (by decide) ?_
  refine lv_iload_n hx hb dQ_decay_5 rfl (lv_at hl 1 rfl) ?_
  refine lv_iadd hx hb dQ_decay_6 ?_
  refine ct_topi (y := nI (4 + e0)) (by rw [show (4 : Int32) = nI 4 from rfl, nI_add]) ?_
  refine ct_dald (k := (4 + e0)) (v := rv (4 + e0)) hx hb hK hP 1 0 rfl rfl (vp_in_nI (by omega) (by decide)) (nI_clamp (by omega)) (rfl) dQ_decay_7 ?_
  exact ct_dret hx hb hr hlocks hP hK hD hS (rfl) dQ_decay_8

set_option maxHeartbeats 4000000 in
set_option maxRecDepth 100000 in
/-- gelling -/
theorem cQ_gelling (l : Launch) (dC : Nat → ClassId) (dI : Nat → Nat → Nat) (tt : Nat → Nat) (sz : Nat) (q0 q1 : Nat) (cq : ClassId) (rv : Nat → UInt64) (ra : UInt64) : Ct l dC dI tt yQ_gelling bQ_gelling 1 (some .double) ({ frames := 0, cells := 0, slots := 0, locals := 0 }) (tQ cq) [.ref q0] (wQ q0 q1 cq rv ra) sz (fun A => ctQd dC dI (tQ cq) (rv 8) (wQ q0 q1 cq rv ra) A) := by
  refine ct_of (by decide) (Nat.le_of_ble_eq_true rfl) ?_
  intro p e s m below meth c A ls hx hb hr hts hown hml hlocks hnm hA hS hP hK hD hT hl
  have hl : lv_has ls 1 [(0, .ref q0)] := hl
  refine lv_aload_n hx hb dQ_gelling_0 rfl (lv_at hl 0 rfl) ?_
  refine va_get (D := (dC, dI)) (ci := 2) (v := .ref q1) (C := "MashEnzymes$Rows") (T := F_Q) (N := 2) hx hb hts in_Q hown hK hP 0 rfl rfl 0 (by decide) (hts _ tw_f_Q_11) (fun _ h9 => h9) rfl dQ_gelling_1 ?_
  refine lv_bipush (v := 8) hx hb dQ_gelling_4 (by decide) ?_
  refine ct_dald (k := 8) (v := rv 8) hx hb hK hP 1 0 rfl rfl (by unfold vp_in; decide) (rfl) (rfl) dQ_gelling_6 ?_
  exact ct_dret hx hb hr hlocks hP hK hD hS (rfl) dQ_gelling_7
end
section
/-- an answer that a condition decides -/
abbrev ctQc (dC : Nat → ClassId) (dI : Nat → Nat → Nat) (tys : List (ClassId × FieldType)) (cond : Prop) (r1 : Int32) (w1 : va_W) (r0 : Int32) (w0 : va_W) (A : Nat → Prop) := va_Qi (fun x (b : Bool) => (b = true ↔ cond) ∧ x = bif b then r1 else r0) (fun b t => ctB dC dI tys (bif b then w1 else w0) A t) A
section CT3
variable {p : Program} {l : Launch} {e : Env} {R : Room} {s : State} {m : MethodId} {args : Array Value} {below : List Frame} {meth : Method} {c : Code} {H : Heap} {locs : List Loc} {cells slots : Nat} {Q : State → Prop}
variable {cc : ByteArray} {pc nL : Nat} {ls : Array Slot} {rest As : List Value} {dC : Nat → ClassId} {dI : Nat → Nat → Nat} {tt : Nat → Nat} {A : Nat → Prop} {tys tysc : List (ClassId × FieldType)} {ws wc wr w1 : va_W}
variable {own C : String} {index : Nat} {y : MethodName} {b : ByteArray} {n : Nat} {ret : Option FieldType} {rm : Room} {h : Nat}
theorem ct_ret1 {v r1 r0 : Int32} {w0 : va_W} {cond : Prop} {ty : FieldType} (hexec : p.tables.exec = Jvm.exec) (hb : c.code = cc) (hr : meth.sig.returnType = some ty) (hn : narrow ty (.int v) = .int v) (hlocks : meth.locks = false) (hP : va_P (dC, dI) cls ws H) (hK : va_K (dC, dI) cls tys s) (hD : va_D A ws) (hS : va_S A s.heap H locs) (hc : cond) (hv : v = r1) (hdg : decode cc pc = .ok (.ireturn, 1)) :
    W p l e R s m args below meth c H locs cells slots (MQ below (ctQc dC dI tys cond r1 ws r0 w0 A) args s cells slots A) (F0 m pc ls [.int v]) :=
  W.zret hexec hb hr hn (fun t ht hW => ⟨⟨v, true, rfl, ⟨iff_of_true rfl hc, hv⟩, by rw [ht]; exact hP, va_K.moved hW.alike hK, hD⟩, hS.F ht⟩) hS.2.2 hdg hlocks
theorem ct_ret0 {v r1 r0 : Int32} {w1 : va_W} {cond : Prop} {ty : FieldType} (hexec : p.tables.exec = Jvm.exec) (hb : c.code = cc) (hr : meth.sig.returnType = some ty) (hn : narrow ty (.int v) = .int v) (hlocks : meth.locks = false) (hP : va_P (dC, dI) cls ws H) (hK : va_K (dC, dI) cls tys s) (hD : va_D A ws) (hS : va_S A s.heap H locs) (hc : ¬ cond) (hv : v = r0) (hdg : decode cc pc = .ok (.ireturn, 1)) :
    W p l e R s m args below meth c H locs cells slots (MQ below (ctQc dC dI tys cond r1 w1 r0 ws A) args s cells slots A) (F0 m pc ls [.int v]) :=
  W.zret hexec hb hr hn (fun t ht hW => ⟨⟨v, false, rfl, ⟨iff_of_false (by decide) hc, hv⟩, by rw [ht]; exact hP, va_K.moved hW.alike hK, hD⟩, hS.F ht⟩) hS.2.2 hdg hlocks
theorem ct_cvc {cond : Prop} {r1 r0 : Int32} {w0 : va_W} (S : CallFix p m c cc nL s args wT own) (hM : Ct l dC dI tt y b n ret rm tysc (.ref h :: As) wc H.size (fun A => ctQc dC dI tysc cond r1 w1 r0 w0 A)) (gw : GoodIn wT (wsV own index C y (.code y b n ret :: wT)))
    (hd : y.cls = C ∧ y.cls ≠ "java/lang/invoke/MethodHandle" ∧ y.cls ≠ "java/lang/invoke/VarHandle" ∧ (parseMethodDescriptor y.desc).map (fun d => d.parameters.length) = some As.length) (hR : rm.frames + 1 ≤ R.frames ∧ 8 + (n + 11) + rm.locals ≤ R.locals)
    {ci : Nat} {q : vw_C} {fs : List Value} (hc : cls[ci]? = some q) (hqC : q.1 = C) (hw : wc[0]? = some (h, .inr (ci, fs)))
    (hP : va_P (dC, dI) cls ws H) (hD : va_D A ws) (hK : va_K (dC, dI) cls tys s) (hS : va_S A s.heap H locs) (hA : ∀ q : Nat, s.heap.size ≤ q → A q) (hT : sT tt A s s.heap) (isC isR tyi : List Nat) (hn : va_nd isC = true) (hC : isC.map (fun i => ws[i]?) = wc.map some) (hRr : isR.map (fun i => ws[i]?) = wr.map some) (hnR : va_nd isR = true) (hdis : ∀ i ∈ isR, i ∉ isC) (hKc : tyi.filterMap (fun i => tys[i]?) = tysc)
    (hsize : ls.size = nL) {st : List Value} (hst : st = As.reverse ++ .ref h :: rest) (hrest : (rest.map fun v => v.category).sum ≤ 8) (hdg : decode cc pc = .ok (.invokevirtual index, 3)) (hf : cells + rm.cells ≤ R.cells ∧ slots + rm.slots ≤ R.slots)
    (kt : cond → ∀ (H1 : Heap) (locs1 : List Loc), va_P (dC, dI) cls (wr ++ w1) H1 → va_D A (wr ++ w1) → va_S A s.heap H1 locs1 → W p l e R s m args below meth c H1 locs1 (cells + rm.cells) (slots + rm.slots) Q (F0 m (pc + 3) ls (.int r1 :: rest)))
    (kf : ¬ cond → ∀ (H1 : Heap) (locs1 : List Loc), va_P (dC, dI) cls (wr ++ w0) H1 → va_D A (wr ++ w0) → va_S A s.heap H1 locs1 → W p l e R s m args below meth c H1 locs1 (cells + rm.cells) (slots + rm.slots) Q (F0 m (pc + 3) ls (.int r0 :: rest))) : W p l e R s m args below meth c H locs cells slots Q (F0 m pc ls st) := by
  subst hqC
  have hFc := va_free (wc := wc) hD hS hA isC hC
  refine va_calli (va_runV (As := As) (rest := rest) S hM (cwV As.length S.2.2.2.2 gw rfl rfl rfl hd hR) ⟨ct_blind, ct_recv hP hK hC hc hw, fun U hU hW => ct_pre hP hD hK hS hA hT hn hC hKc U hU hW⟩ rfl rfl hsize hst (lv_room hrest) hdg hf) hS (fun q _ h => hFc q h) hFc (fun r2 u t H1 locs ht hvm hw hB hz1 hk1 hS => ?_)
  obtain ⟨hP1, -, hD1⟩ := hB
  rw [ht] at hP1
  obtain ⟨hP, hD⟩ := va_join hP hD isC isR hC hRr hnR hdis hk1 hFc hP1 hD1
  obtain ⟨hc, hw⟩ := hw
  cases u with
  | true =>
    have hw : r2 = r1 := hw
    subst hw
    exact kt (hc.mp rfl) H1 locs hP hD hS
  | false =>
    have hw : r2 = r0 := hw
    subst hw
    exact kf (fun h => by have := hc.mpr h; cases this) H1 locs hP hD hS
theorem ct_csc {cond : Prop} {r1 r0 : Int32} (S : CallFix p m c cc nL s args wT own) (hM : Ct l dC dI tt y b n ret rm [] As [] H.size (fun A => ctQc dC dI [] cond r1 [] r0 [] A)) (gw : GoodIn wT (va_wsS own index y (.code y b n ret :: wT)))
    (hd : y.cls ≠ "java/lang/invoke/MethodHandle" ∧ y.cls ≠ "java/lang/invoke/VarHandle" ∧ (parseMethodDescriptor y.desc).map (fun d => d.parameters.length) = some As.length) (hR : rm.frames + 1 ≤ R.frames ∧ 8 + (n + 11) + rm.locals ≤ R.locals)
    (hP : va_P (dC, dI) cls ws H) (hD : va_D A ws) (hK : va_K (dC, dI) cls tys s) (hS : va_S A s.heap H locs) (hA : ∀ q : Nat, s.heap.size ≤ q → A q) (hT : sT tt A s s.heap) (isR : List Nat) (hRr : isR.map (fun i => ws[i]?) = wr.map some) (hnR : va_nd isR = true)
    (hsize : ls.size = nL) {st : List Value} (hst : st = As.reverse ++ rest) (hrest : (rest.map fun v => v.category).sum ≤ 8) (hdg : decode cc pc = .ok (.invokestatic index, 3)) (hf : cells + rm.cells ≤ R.cells ∧ slots + rm.slots ≤ R.slots)
    (kt : cond → ∀ (H1 : Heap) (locs1 : List Loc), va_P (dC, dI) cls wr H1 → va_D A wr → va_S A s.heap H1 locs1 → W p l e R s m args below meth c H1 locs1 (cells + rm.cells) (slots + rm.slots) Q (F0 m (pc + 3) ls (.int r1 :: rest)))
    (kf : ¬ cond → ∀ (H1 : Heap) (locs1 : List Loc), va_P (dC, dI) cls wr H1 → va_D A wr → va_S A s.heap H1 locs1 → W p l e R s m args below meth c H1 locs1 (cells + rm.cells) (slots + rm.slots) Q (F0 m (pc + 3) ls (.int r0 :: rest))) : W p l e R s m args below meth c H locs cells slots Q (F0 m pc ls st) := by
  have hFc := va_free (wc := []) hD hS hA [] rfl
  refine va_calli (va_runS (As := As) (rest := rest) S hM (va_cwS As.length S.2.2.2.2 gw rfl rfl rfl hd hR) ⟨ct_blind, fun U hU hW => ct_pre (isC := []) (tyi := []) hP hD hK hS hA hT rfl rfl rfl U hU hW⟩ rfl rfl hsize hst (lv_room hrest) hdg hf) hS (fun q _ h => hFc q h) hFc (fun r2 u t H1 locs ht hvm hw hB hz1 hk1 hS => ?_)
  obtain ⟨hP1, -, hD1⟩ := hB
  rw [ht] at hP1
  have hPn : va_P (dC, dI) cls [] H1 := fun k q h => by simp at h
  have hDn : va_D (va_A [] H.size) [] := ⟨fun i j p q h => by simp at h, fun k q h => by simp at h⟩
  obtain ⟨hP, hD⟩ := va_join (w1 := []) hP hD [] isR rfl hRr hnR (by simp) hk1 hFc hPn hDn
  rw [List.append_nil] at hP hD
  obtain ⟨hc, hw⟩ := hw
  cases u with
  | true =>
    have hw : r2 = r1 := hw
    subst hw
    exact kt (hc.mp rfl) H1 locs hP hD hS
  | false =>
    have hw : r2 = r0 := hw
    subst hw
    exact kf (fun h => by have := hc.mpr h; cases this) H1 locs hP hD hS
end CT3
set_option maxHeartbeats 4000000 in
set_option maxRecDepth 100000 in
/-- a second of heating -/
theorem cH_heated (l : Launch) (dC : Nat → ClassId) (dI : Nat → Nat → Nat) (tt : Nat → Nat) (sz : Nat) (h0 h1 h2 : Nat) (c1 c2 : ClassId) (hs : Nat → Int32) (ht : Nat → UInt64) (c0 k0 : Nat) (T : UInt64) (nw : Int32) (hc32 : c0 ≤ 32) (hk0 : k0 ≤ c0) (hok : fst hs nw c0 k0 < c0 → vf_n64 (FP.dsub (ht (fst hs nw c0 k0)) T) ∧ vf_n64 (FP.ddiv (FP.dsub (ht (fst hs nw c0 k0)) T) (FP.i2d (hs (fst hs nw c0 k0) - nw))) ∧ vf_n64 (FP.dadd T (FP.ddiv (FP.dsub (ht (fst hs nw c0 k0)) T) (FP.i2d (hs (fst hs nw c0 k0) - nw))))) : Ct l dC dI tt yH_heated bH_heated 4 (some .double) ({ frames := 0, cells := 0, slots := 0, locals := 0 }) (tH c1 c2) [.ref h0, .double T, .int nw] (wH h0 h1 h2 c1 c2 hs ht (nI c0) (nI k0)) sz (fun A => ctQd dC dI (tH c1 c2) (heatT hs ht c0 (fst hs nw c0 k0) nw T) (wH h0 h1 h2 c1 c2 hs ht (nI c0) (nI (fst hs nw c0 k0))) A) := by
  refine ct_of (by decide) (Nat.le_of_ble_eq_true rfl) ?_
  intro p e s m below meth c A ls hx hb hr hts hown hml hlocks hnm hA hS hP hK hD hT hl
  have hl : lv_has ls 4 [(0, .ref h0), (1, .double T), (3, .int nw)] := hl
  generalize hKe : fst hs nw c0 k0 = K at hok ⊢
  have key : ∀ (n k : Nat) (ls : Array Slot) (H : Heap) (locs : List Loc), n + k = c0 → fstN hs nw c0 n k = K → va_P (dC, dI) cls (wH h0 h1 h2 c1 c2 hs ht (nI c0) (nI k)) H → va_D A (wH h0 h1 h2 c1 c2 hs ht (nI c0) (nI k)) → va_S A s.heap H locs → lv_has ls 4 [(0, .ref h0), (1, .double T), (3, .int nw)] → W p l e ({ frames := 0, cells := 0, slots := 0, locals := 0 } : Room) s m ([.ref h0, .double T, .int nw] : List Value).toArray below meth c H locs 0 0 (MQ below (ctQd dC dI (tH c1 c2) (heatT hs ht c0 K nw T) (wH h0 h1 h2 c1 c2 hs ht (nI c0) (nI K)) A) ([.ref h0, .double T, .int nw] : List Value).toArray s 0 0 A) (F0 m 0 ls []) := by
    intro n
    induction n with
    | zero =>
      intro k ls H locs hn hm hP hD hS hl
      refine lv_aload_n hx hb dH_heated_0 rfl (lv_at hl 0 rfl) ?_
      refine va_get (D := (dC, dI)) (ci := 1) (v := .int (nI k)) (C := "MashEnzymes$Heating") (T := F_H) (N := 4) hx hb hts in_H hown hK hP 0 rfl rfl 3 (by decide) (hts _ tw_f_H_23) (fun _ h9 => h9) rfl dH_heated_1 ?_
      refine lv_aload_n hx hb dH_heated_4 rfl (lv_at hl 0 rfl) ?_
      refine va_get (D := (dC, dI)) (ci := 1) (v := .int (nI c0)) (C := "MashEnzymes$Heating") (T := F_H) (N := 4) hx hb hts in_H hown hK hP 0 rfl rfl 2 (by decide) (hts _ tw_f_H_19) (fun _ h9 => h9) rfl dH_heated_5 ?_
      refine lv_icmp_ge (tgt := 37) hx hb dH_heated_8 (by decide) (fun c_1 => ?_) (fun c_1 => ?_)
      · have hkK : k = K := hm
        subst hkK
        refine lv_aload_n hx hb dH_heated_37 rfl (lv_at hl 0 rfl) ?_
        refine va_get (D := (dC, dI)) (ci := 1) (v := .int (nI k)) (C := "MashEnzymes$Heating") (T := F_H) (N := 4) hx hb hts in_H hown hK hP 0 rfl rfl 3 (by decide) (hts _ tw_f_H_23) (fun _ h9 => h9) rfl dH_heated_38 ?_
        refine lv_aload_n hx hb dH_heated_41 rfl (lv_at hl 0 rfl) ?_
        refine va_get (D := (dC, dI)) (ci := 1) (v := .int (nI c0)) (C := "MashEnzymes$Heating") (T := F_H) (N := 4) hx hb hts in_H hown hK hP 0 rfl rfl 2 (by decide) (hts _ tw_f_H_19) (fun _ h9 => h9) rfl dH_heated_42 ?_
        refine lv_icmp_ge (tgt := 77) hx hb dH_heated_45 (by decide) (fun c_2 => ?_) (fun c_2 => ?_)
        · refine lv_dload_n hx hb dH_heated_77 rfl (lv_at hl 1 rfl) ?_
          exact ct_dret hx hb hr hlocks hP hK hD hS (by unfold heatT; rw [if_neg (by omega)]) dH_heated_78
        · exact absurd (nI_le (a := c0) (b := k) (by omega) (by omega)) c_2
      · exact absurd (nI_le (a := c0) (b := k) (by omega) (by omega)) c_1
    | succ n ih =>
      intro k ls H locs hn hm hP hD hS hl
      refine lv_aload_n hx hb dH_heated_0 rfl (lv_at hl 0 rfl) ?_
      refine va_get (D := (dC, dI)) (ci := 1) (v := .int (nI k)) (C := "MashEnzymes$Heating") (T := F_H) (N := 4) hx hb hts in_H hown hK hP 0 rfl rfl 3 (by decide) (hts _ tw_f_H_23) (fun _ h9 => h9) rfl dH_heated_1 ?_
      refine lv_aload_n hx hb dH_heated_4 rfl (lv_at hl 0 rfl) ?_
      refine va_get (D := (dC, dI)) (ci := 1) (v := .int (nI c0)) (C := "MashEnzymes$Heating") (T := F_H) (N := 4) hx hb hts in_H hown hK hP 0 rfl rfl 2 (by decide) (hts _ tw_f_H_19) (fun _ h9 => h9) rfl dH_heated_5 ?_
      refine lv_icmp_ge (tgt := 37) hx hb dH_heated_8 (by decide) (fun c_3 => ?_) (fun c_3 => ?_)
      · exact absurd ((nI_leI (a := c0) (b := k) (by omega) (by omega)).mp c_3) (by omega)
      · refine lv_aload_n hx hb dH_heated_11 rfl (lv_at hl 0 rfl) ?_
        refine va_get (D := (dC, dI)) (ci := 1) (v := .ref h1) (C := "MashEnzymes$Heating") (T := F_H) (N := 4) hx hb hts in_H hown hK hP 0 rfl rfl 0 (by decide) (hts _ tw_f_H_9) (fun _ h9 => h9) rfl dH_heated_12 ?_
        refine lv_aload_n hx hb dH_heated_15 rfl (lv_at hl 0 rfl) ?_
        refine va_get (D := (dC, dI)) (ci := 1) (v := .int (nI k)) (C := "MashEnzymes$Heating") (T := F_H) (N := 4) hx hb hts in_H hown hK hP 0 rfl rfl 3 (by decide) (hts _ tw_f_H_23) (fun _ h9 => h9) rfl dH_heated_16 ?_
        refine ct_iald (k := k) (v := hs k) hx hb hK hP 1 0 rfl rfl (vp_in_nI (by omega) (by decide)) (nI_clamp (by omega)) (rfl) dH_heated_19 ?_
        refine lv_iload_n hx hb dH_heated_20 rfl (lv_at hl 2 rfl) ?_
        refine lv_icmp_gt (tgt := 37) hx hb dH_heated_21 (by decide) (fun c_4 => ?_) (fun c_4 => ?_)
        · have hmK : k = K := by unfold fstN at hm; rw [if_neg (fun h => absurd h.2 (Int32.not_le.mpr c_4))] at hm; exact hm
          have hkc : k < c0 := by omega
          have hkK : k = K := hmK
          subst hkK
          refine lv_aload_n hx hb dH_heated_37 rfl (lv_at hl 0 rfl) ?_
          refine va_get (D := (dC, dI)) (ci := 1) (v := .int (nI k)) (C := "MashEnzymes$Heating") (T := F_H) (N := 4) hx hb hts in_H hown hK hP 0 rfl rfl 3 (by decide) (hts _ tw_f_H_23) (fun _ h9 => h9) rfl dH_heated_38 ?_
          refine lv_aload_n hx hb dH_heated_41 rfl (lv_at hl 0 rfl) ?_
          refine va_get (D := (dC, dI)) (ci := 1) (v := .int (nI c0)) (C := "MashEnzymes$Heating") (T := F_H) (N := 4) hx hb hts in_H hown hK hP 0 rfl rfl 2 (by decide) (hts _ tw_f_H_19) (fun _ h9 => h9) rfl dH_heated_42 ?_
          refine lv_icmp_ge (tgt := 77) hx hb dH_heated_45 (by decide) (fun c_5 => ?_) (fun c_5 => ?_)
          · exact absurd ((nI_leI (a := c0) (b := k) (by omega) (by omega)).mp c_5) (by omega)
          · refine lv_dload_n hx hb dH_heated_48 rfl (lv_at hl 1 rfl) ?_
            refine lv_aload_n hx hb dH_heated_49 rfl (lv_at hl 0 rfl) ?_
            refine va_get (D := (dC, dI)) (ci := 1) (v := .ref h2) (C := "MashEnzymes$Heating") (T := F_H) (N := 4) hx hb hts in_H hown hK hP 0 rfl rfl 1 (by decide) (hts _ tw_f_H_15) (fun _ h9 => h9) rfl dH_heated_50 ?_
            refine lv_aload_n hx hb dH_heated_53 rfl (lv_at hl 0 rfl) ?_
            refine va_get (D := (dC, dI)) (ci := 1) (v := .int (nI k)) (C := "MashEnzymes$Heating") (T := F_H) (N := 4) hx hb hts in_H hown hK hP 0 rfl rfl 3 (by decide) (hts _ tw_f_H_23) (fun _ h9 => h9) rfl dH_heated_54 ?_
            refine ct_dald (k := k) (v := ht k) hx hb hK hP 2 1 rfl rfl (vp_in_nI (by omega) (by decide)) (nI_clamp (by omega)) (rfl) dH_heated_57 ?_
            refine lv_dload_n hx hb dH_heated_58 rfl (lv_at hl 1 rfl) ?_
            refine lv_dsub hx hb dH_heated_59 ((hok hkc).1) ?_
            refine lv_aload_n hx hb dH_heated_60 rfl (lv_at hl 0 rfl) ?_
            refine va_get (D := (dC, dI)) (ci := 1) (v := .ref h1) (C := "MashEnzymes$Heating") (T := F_H) (N := 4) hx hb hts in_H hown hK hP 0 rfl rfl 0 (by decide) (hts _ tw_f_H_9) (fun _ h9 => h9) rfl dH_heated_61 ?_
            refine lv_aload_n hx hb dH_heated_64 rfl (lv_at hl 0 rfl) ?_
            refine va_get (D := (dC, dI)) (ci := 1) (v := .int (nI k)) (C := "MashEnzymes$Heating") (T := F_H) (N := 4) hx hb hts in_H hown hK hP 0 rfl rfl 3 (by decide) (hts _ tw_f_H_23) (fun _ h9 => h9) rfl dH_heated_65 ?_
            refine ct_iald (k := k) (v := hs k) hx hb hK hP 1 0 rfl rfl (vp_in_nI (by omega) (by decide)) (nI_clamp (by omega)) (rfl) dH_heated_68 ?_
            refine lv_iload_n hx hb dH_heated_69 rfl (lv_at hl 2 rfl) ?_
            refine lv_isub hx hb dH_heated_70 ?_
            refine lv_i2d hx hb dH_heated_71 ?_
            refine lv_ddiv hx hb dH_heated_72 ((hok hkc).2.1) ?_
            refine lv_dadd hx hb dH_heated_73 ((hok hkc).2.2) ?_
            refine lv_goto (tgt := 78) hx hb dH_heated_74 (by decide) ?_
            exact ct_dret hx hb hr hlocks hP hK hD hS (by unfold heatT; rw [if_pos hkc]) dH_heated_78
        · have hle : hs k ≤ nw := Int32.not_lt.mp c_4
          have hkc : k < c0 := by omega
          unfold fstN at hm
          rw [if_pos ⟨hkc, hle⟩] at hm
          refine lv_aload_n hx hb dH_heated_24 rfl (lv_at hl 0 rfl) ?_
          refine lv_aload_n hx hb dH_heated_25 rfl (lv_at hl 0 rfl) ?_
          refine va_get (D := (dC, dI)) (ci := 1) (v := .int (nI k)) (C := "MashEnzymes$Heating") (T := F_H) (N := 4) hx hb hts in_H hown hK hP 0 rfl rfl 3 (by decide) (hts _ tw_f_H_23) (fun _ h9 => h9) rfl dH_heated_26 ?_
          refine lv_iconst (v := 1) hx hb dH_heated_29 (by decide) ?_
          refine lv_iadd hx hb dH_heated_30 ?_
          refine ct_topi (y := nI (k + 1)) (nI_1 k) ?_
          refine va_put (D := (dC, dI)) (ci := 1) (v := .int (nI (k + 1))) (ty := .int) (C := "MashEnzymes$Heating") (T := F_H) (N := 4) hx hb hts in_H t_H t_H_ok n_H hown hK hP hD hS 0 rfl rfl 3 (by decide) (hts _ tw_f_H_23) (fun _ h9 => h9) rfl (by decide +kernel) rfl rfl (Nat.le_of_ble_eq_true rfl) dH_heated_31 (fun H locs hP hD hS => ?_)
          have hP : va_P (dC, dI) cls (wH h0 h1 h2 c1 c2 hs ht (nI c0) (nI (k + 1))) H := hP
          have hD : va_D A (wH h0 h1 h2 c1 c2 hs ht (nI c0) (nI (k + 1))) := hD
          refine lv_goto (tgt := 0) hx hb dH_heated_34 (by decide) ?_
          exact ih (k + 1) ls H locs (by omega) hm hP hD hS (lv_sub hl [0, 1, 2] rfl)
  exact key (c0 - k0) k0 ls _ _ (by omega) hKe hP hD hS hl

/-- a step is taken -/
def apOK (hs : Nat → Int32) (c0 : Nat) (sec : Int32) : Prop := c0 < 32 ∧ (0 < c0 → hs (c0 - 1) < sec)
set_option maxHeartbeats 4000000 in
set_option maxRecDepth 100000 in
/-- a step is told -/
theorem cH_append (l : Launch) (dC : Nat → ClassId) (dI : Nat → Nat → Nat) (tt : Nat → Nat) (sz : Nat) (h0 h1 h2 : Nat) (c1 c2 : ClassId) (hs : Nat → Int32) (ht : Nat → UInt64) (c0 : Nat) (hn sec : Int32) (tg : UInt64) (hc32 : c0 ≤ 32) : Ct l dC dI tt yH_append bH_append 4 (some .boolean) ({ frames := 0, cells := 0, slots := 0, locals := 0 }) (tH c1 c2) [.ref h0, .int sec, .double tg] (wH h0 h1 h2 c1 c2 hs ht (nI c0) hn) sz (fun A => ctQc dC dI (tH c1 c2) (apOK hs c0 sec) 1 (wH h0 h1 h2 c1 c2 (upd hs c0 sec) (vf_upd ht c0 tg) (nI (c0 + 1)) hn) 0 (wH h0 h1 h2 c1 c2 hs ht (nI c0) hn) A) := by
  refine ct_of (by decide) (Nat.le_of_ble_eq_true rfl) ?_
  intro p e s m below meth c A ls hx hb hr hts hown hml hlocks hnm hA hS hP hK hD hT hl
  have hl : lv_has ls 4 [(0, .ref h0), (1, .int sec), (2, .double tg)] := hl
  refine lv_aload_n hx hb dH_append_0 rfl (lv_at hl 0 rfl) ?_
  refine va_get (D := (dC, dI)) (ci := 1) (v := .int (nI c0)) (C := "MashEnzymes$Heating") (T := F_H) (N := 4) hx hb hts in_H hown hK hP 0 rfl rfl 2 (by decide) (hts _ tw_f_H_19) (fun _ h9 => h9) rfl dH_append_1 ?_
  refine lv_bipush (v := 32) hx hb dH_append_4 (by decide) ?_
  refine lv_icmp_ge (tgt := 31) hx hb dH_append_6 (by decide) (fun c_1 => ?_) (fun c_1 => ?_)
  · refine lv_iconst (v := 0) hx hb dH_append_31 (by decide) ?_
    exact ct_ret0 hx hb hr rfl hlocks hP hK hD hS (fun h => absurd ((nI_leI (a := 32) (b := c0) (by decide) (by omega)).mp c_1) (by have := h.1; omega)) rfl dH_append_32
  · have hc9 : c0 < 32 := Nat.lt_of_not_le fun h => c_1 (nI_le (a := 32) (b := c0) h (by omega))
    refine lv_aload_n hx hb dH_append_9 rfl (lv_at hl 0 rfl) ?_
    refine va_get (D := (dC, dI)) (ci := 1) (v := .int (nI c0)) (C := "MashEnzymes$Heating") (T := F_H) (N := 4) hx hb hts in_H hown hK hP 0 rfl rfl 2 (by decide) (hts _ tw_f_H_19) (fun _ h9 => h9) rfl dH_append_10 ?_
    refine lv_if_le (tgt := 33) hx hb dH_append_13 (by decide) (fun c_2 => ?_) (fun c_2 => ?_)
    · have hap : apOK hs c0 sec := ⟨hc9, fun h => absurd ((nI_leI (a := c0) (b := 0) (by omega) (by decide)).mp c_2) (by omega)⟩
      refine lv_aload_n hx hb dH_append_33 rfl (lv_at hl 0 rfl) ?_
      refine va_get (D := (dC, dI)) (ci := 1) (v := .ref h1) (C := "MashEnzymes$Heating") (T := F_H) (N := 4) hx hb hts in_H hown hK hP 0 rfl rfl 0 (by decide) (hts _ tw_f_H_9) (fun _ h9 => h9) rfl dH_append_34 ?_
      refine lv_aload_n hx hb dH_append_37 rfl (lv_at hl 0 rfl) ?_
      refine va_get (D := (dC, dI)) (ci := 1) (v := .int (nI c0)) (C := "MashEnzymes$Heating") (T := F_H) (N := 4) hx hb hts in_H hown hK hP 0 rfl rfl 2 (by decide) (hts _ tw_f_H_19) (fun _ h9 => h9) rfl dH_append_38 ?_
      refine lv_iload_n hx hb dH_append_41 rfl (lv_at hl 1 rfl) ?_
      refine ct_iast (k := c0) (w1 := (wH h0 h1 h2 c1 c2 (upd hs c0 sec) ht (nI c0) hn)) hx hb hK hP hD hS 1 0 rfl rfl (vp_in_nI hap.1 (by decide)) (nI_clamp (by omega)) (rfl) dH_append_42 (fun H locs hP hD hS => ?_)
      refine lv_aload_n hx hb dH_append_43 rfl (lv_at hl 0 rfl) ?_
      refine va_get (D := (dC, dI)) (ci := 1) (v := .ref h2) (C := "MashEnzymes$Heating") (T := F_H) (N := 4) hx hb hts in_H hown hK hP 0 rfl rfl 1 (by decide) (hts _ tw_f_H_15) (fun _ h9 => h9) rfl dH_append_44 ?_
      refine lv_aload_n hx hb dH_append_47 rfl (lv_at hl 0 rfl) ?_
      refine va_get (D := (dC, dI)) (ci := 1) (v := .int (nI c0)) (C := "MashEnzymes$Heating") (T := F_H) (N := 4) hx hb hts in_H hown hK hP 0 rfl rfl 2 (by decide) (hts _ tw_f_H_19) (fun _ h9 => h9) rfl dH_append_48 ?_
      refine lv_dload_n hx hb dH_append_51 rfl (lv_at hl 2 rfl) ?_
      refine ct_dast (k := c0) (w1 := (wH h0 h1 h2 c1 c2 (upd hs c0 sec) (vf_upd ht c0 tg) (nI c0) hn)) hx hb hK hP hD hS 2 1 rfl rfl (vp_in_nI hap.1 (by decide)) (nI_clamp (by omega)) (rfl) dH_append_52 (fun H locs hP hD hS => ?_)
      refine lv_aload_n hx hb dH_append_53 rfl (lv_at hl 0 rfl) ?_
      refine lv_aload_n hx hb dH_append_54 rfl (lv_at hl 0 rfl) ?_
      refine va_get (D := (dC, dI)) (ci := 1) (v := .int (nI c0)) (C := "MashEnzymes$Heating") (T := F_H) (N := 4) hx hb hts in_H hown hK hP 0 rfl rfl 2 (by decide) (hts _ tw_f_H_19) (fun _ h9 => h9) rfl dH_append_55 ?_
      refine lv_iconst (v := 1) hx hb dH_append_58 (by decide) ?_
      refine lv_iadd hx hb dH_append_59 ?_
      refine ct_topi (y := nI (c0 + 1)) (nI_1 c0) ?_
      refine va_put (D := (dC, dI)) (ci := 1) (v := .int (nI (c0 + 1))) (ty := .int) (C := "MashEnzymes$Heating") (T := F_H) (N := 4) hx hb hts in_H t_H t_H_ok n_H hown hK hP hD hS 0 rfl rfl 2 (by decide) (hts _ tw_f_H_19) (fun _ h9 => h9) rfl (by decide +kernel) rfl rfl (Nat.le_of_ble_eq_true rfl) dH_append_60 (fun H locs hP hD hS => ?_)
      have hP : va_P (dC, dI) cls (wH h0 h1 h2 c1 c2 (upd hs c0 sec) (vf_upd ht c0 tg) (nI (c0 + 1)) hn) H := hP
      have hD : va_D A (wH h0 h1 h2 c1 c2 (upd hs c0 sec) (vf_upd ht c0 tg) (nI (c0 + 1)) hn) := hD
      refine lv_iconst (v := 1) hx hb dH_append_63 (by decide) ?_
      exact ct_ret1 hx hb hr rfl hlocks hP hK hD hS hap rfl dH_append_64
    · have hc0 : 0 < c0 := Nat.pos_of_ne_zero fun h => c_2 (by rw [h]; decide)
      refine lv_iload_n hx hb dH_append_16 rfl (lv_at hl 1 rfl) ?_
      refine lv_aload_n hx hb dH_append_17 rfl (lv_at hl 0 rfl) ?_
      refine va_get (D := (dC, dI)) (ci := 1) (v := .ref h1) (C := "MashEnzymes$Heating") (T := F_H) (N := 4) hx hb hts in_H hown hK hP 0 rfl rfl 0 (by decide) (hts _ tw_f_H_9) (fun _ h9 => h9) rfl dH_append_18 ?_
      refine lv_aload_n hx hb dH_append_21 rfl (lv_at hl 0 rfl) ?_
      refine va_get (D := (dC, dI)) (ci := 1) (v := .int (nI c0)) (C := "MashEnzymes$Heating") (T := F_H) (N := 4) hx hb hts in_H hown hK hP 0 rfl rfl 2 (by decide) (hts _ tw_f_H_19) (fun _ h9 => h9) rfl dH_append_22 ?_
      refine lv_iconst (v := 1) hx hb dH_append_25 (by decide) ?_
      refine lv_isub hx hb dH_append_26 ?_
      refine ct_topi (y := nI (c0 - 1)) (pk_sub hc0) ?_
      refine ct_iald (k := (c0 - 1)) (v := hs (c0 - 1)) hx hb hK hP 1 0 rfl rfl (vp_in_nI (by omega) (by decide)) (nI_clamp (by omega)) (rfl) dH_append_27 ?_
      refine lv_icmp_gt (tgt := 33) hx hb dH_append_28 (by decide) (fun c_3 => ?_) (fun c_3 => ?_)
      · have hap : apOK hs c0 sec := ⟨hc9, fun _ => c_3⟩
        refine lv_aload_n hx hb dH_append_33 rfl (lv_at hl 0 rfl) ?_
        refine va_get (D := (dC, dI)) (ci := 1) (v := .ref h1) (C := "MashEnzymes$Heating") (T := F_H) (N := 4) hx hb hts in_H hown hK hP 0 rfl rfl 0 (by decide) (hts _ tw_f_H_9) (fun _ h9 => h9) rfl dH_append_34 ?_
        refine lv_aload_n hx hb dH_append_37 rfl (lv_at hl 0 rfl) ?_
        refine va_get (D := (dC, dI)) (ci := 1) (v := .int (nI c0)) (C := "MashEnzymes$Heating") (T := F_H) (N := 4) hx hb hts in_H hown hK hP 0 rfl rfl 2 (by decide) (hts _ tw_f_H_19) (fun _ h9 => h9) rfl dH_append_38 ?_
        refine lv_iload_n hx hb dH_append_41 rfl (lv_at hl 1 rfl) ?_
        refine ct_iast (k := c0) (w1 := (wH h0 h1 h2 c1 c2 (upd hs c0 sec) ht (nI c0) hn)) hx hb hK hP hD hS 1 0 rfl rfl (vp_in_nI hap.1 (by decide)) (nI_clamp (by omega)) (rfl) dH_append_42 (fun H locs hP hD hS => ?_)
        refine lv_aload_n hx hb dH_append_43 rfl (lv_at hl 0 rfl) ?_
        refine va_get (D := (dC, dI)) (ci := 1) (v := .ref h2) (C := "MashEnzymes$Heating") (T := F_H) (N := 4) hx hb hts in_H hown hK hP 0 rfl rfl 1 (by decide) (hts _ tw_f_H_15) (fun _ h9 => h9) rfl dH_append_44 ?_
        refine lv_aload_n hx hb dH_append_47 rfl (lv_at hl 0 rfl) ?_
        refine va_get (D := (dC, dI)) (ci := 1) (v := .int (nI c0)) (C := "MashEnzymes$Heating") (T := F_H) (N := 4) hx hb hts in_H hown hK hP 0 rfl rfl 2 (by decide) (hts _ tw_f_H_19) (fun _ h9 => h9) rfl dH_append_48 ?_
        refine lv_dload_n hx hb dH_append_51 rfl (lv_at hl 2 rfl) ?_
        refine ct_dast (k := c0) (w1 := (wH h0 h1 h2 c1 c2 (upd hs c0 sec) (vf_upd ht c0 tg) (nI c0) hn)) hx hb hK hP hD hS 2 1 rfl rfl (vp_in_nI hap.1 (by decide)) (nI_clamp (by omega)) (rfl) dH_append_52 (fun H locs hP hD hS => ?_)
        refine lv_aload_n hx hb dH_append_53 rfl (lv_at hl 0 rfl) ?_
        refine lv_aload_n hx hb dH_append_54 rfl (lv_at hl 0 rfl) ?_
        refine va_get (D := (dC, dI)) (ci := 1) (v := .int (nI c0)) (C := "MashEnzymes$Heating") (T := F_H) (N := 4) hx hb hts in_H hown hK hP 0 rfl rfl 2 (by decide) (hts _ tw_f_H_19) (fun _ h9 => h9) rfl dH_append_55 ?_
        refine lv_iconst (v := 1) hx hb dH_append_58 (by decide) ?_
        refine lv_iadd hx hb dH_append_59 ?_
        refine ct_topi (y := nI (c0 + 1)) (nI_1 c0) ?_
        refine va_put (D := (dC, dI)) (ci := 1) (v := .int (nI (c0 + 1))) (ty := .int) (C := "MashEnzymes$Heating") (T := F_H) (N := 4) hx hb hts in_H t_H t_H_ok n_H hown hK hP hD hS 0 rfl rfl 2 (by decide) (hts _ tw_f_H_19) (fun _ h9 => h9) rfl (by decide +kernel) rfl rfl (Nat.le_of_ble_eq_true rfl) dH_append_60 (fun H locs hP hD hS => ?_)
        have hP : va_P (dC, dI) cls (wH h0 h1 h2 c1 c2 (upd hs c0 sec) (vf_upd ht c0 tg) (nI (c0 + 1)) hn) H := hP
        have hD : va_D A (wH h0 h1 h2 c1 c2 (upd hs c0 sec) (vf_upd ht c0 tg) (nI (c0 + 1)) hn) := hD
        refine lv_iconst (v := 1) hx hb dH_append_63 (by decide) ?_
        exact ct_ret1 hx hb hr rfl hlocks hP hK hD hS hap rfl dH_append_64
      · refine lv_iconst (v := 0) hx hb dH_append_31 (by decide) ?_
        exact ct_ret0 hx hb hr rfl hlocks hP hK hD hS (fun h => c_3 (h.2 hc0)) rfl dH_append_32
end
section
/-- the reckonings of a second that must give numbers -/
def ok3 (a rv : Nat → UInt64) : Prop := vf_n64 (FP.dmul (a 1) (rv 8)) ∧ vf_n64 (FP.dsub (a 1) (FP.dmul (a 1) (rv 8))) ∧ vf_n64 (FP.dadd (a 2) (FP.dmul (a 1) (rv 8)))
def ok4 (a ac : Nat → UInt64) : Prop := vf_n64 (FP.dmul (a 2) (ac 0)) ∧ vf_n64 (FP.dsub (a 2) (FP.dmul (a 2) (ac 0))) ∧ vf_n64 (FP.dmul (FP.dmul (a 2) (ac 0)) 0x3FE8000000000000) ∧ vf_n64 (FP.dadd (a 6) (FP.dmul (FP.dmul (a 2) (ac 0)) 0x3FE8000000000000)) ∧ vf_n64 (FP.dmul (FP.dmul (a 2) (ac 0)) 0x3FD0000000000000) ∧ vf_n64 (FP.dadd (a 5) (FP.dmul (FP.dmul (a 2) (ac 0)) 0x3FD0000000000000))
def ok5 (a ac : Nat → UInt64) : Prop := vf_n64 (FP.dmul (a 6) (ac 1)) ∧ vf_n64 (FP.dmul (a 0) 0x4020000000000000) ∧ vf_n64 (FP.dsub (a 6) (y5 a ac)) ∧ vf_n64 (FP.dmul (y5 a ac) 0x3FF1000000000000) ∧ vf_n64 (FP.dadd (a 4) (FP.dmul (y5 a ac) 0x3FF1000000000000)) ∧ vf_n64 (FP.dmul (y5 a ac) 0x3FB0000000000000) ∧ vf_n64 (FP.dsub (a 0) (FP.dmul (y5 a ac) 0x3FB0000000000000))
def ok6 (a ac : Nat → UInt64) : Prop := vf_n64 (FP.dmul (a 6) (ac 2)) ∧ vf_n64 (FP.dmul (a 0) 0x4000000000000000) ∧ vf_n64 (FP.dsub (a 6) (z6 a ac)) ∧ vf_n64 (FP.dmul (z6 a ac) 0x3FF2000000000000) ∧ vf_n64 (FP.dadd (a 3) (FP.dmul (z6 a ac) 0x3FF2000000000000)) ∧ vf_n64 (FP.dmul (z6 a ac) 0x3FC0000000000000) ∧ vf_n64 (FP.dsub (a 0) (FP.dmul (z6 a ac) 0x3FC0000000000000))
def ok7 (a ac : Nat → UInt64) : Prop := vf_n64 (FP.dmul (a 8) (ac 3)) ∧ vf_n64 (FP.dsub (a 8) (FP.dmul (a 8) (ac 3))) ∧ vf_n64 (FP.dadd (a 7) (FP.dmul (a 8) (ac 3)))
def ok8 (a rv : Nat → UInt64) : Prop := ∀ k, k < 4 → vf_n64 (FP.dmul (a (9 + k)) (rv (4 + k))) ∧ vf_n64 (FP.dsub (a (9 + k)) (FP.dmul (a (9 + k)) (rv (4 + k))))
def okA (a rv : Nat → UInt64) (A : UInt64) : Prop := ∀ k, k < 4 → vf_n64 (FP.dmul (a (9 + k)) (rv k)) ∧ vf_n64 (FP.dmul (FP.dmul (a (9 + k)) (rv k)) (fitA A)) ∧ (FP.dcmp (FP.dmul (FP.dmul (a (9 + k)) (rv k)) (fitA A)) 0 = some .gt → vf_n64 (FP.dadd (FP.dmul (FP.dmul (a (9 + k)) (rv k)) (fitA A)) (a 0)) ∧ vf_n64 (FP.ddiv (FP.dmul (FP.dmul (a (9 + k)) (rv k)) (fitA A)) (FP.dadd (FP.dmul (FP.dmul (a (9 + k)) (rv k)) (fitA A)) (a 0))) ∧ vf_n64 (FP.dmul (FP.ddiv (FP.dmul (FP.dmul (a (9 + k)) (rv k)) (fitA A)) (FP.dadd (FP.dmul (FP.dmul (a (9 + k)) (rv k)) (fitA A)) (a 0))) 0x3FB0000000000000))
/-- a temperature that may be told; the mean weighed by water -/
def tpOK (d : UInt64) : Prop := (FP.dcmp d 0 = some .gt ∨ FP.dcmp d 0 = some .eq) ∧ (FP.dcmp d 4636737291354636288 = some .lt ∨ FP.dcmp d 4636737291354636288 = some .eq)
def mixD (v w ov ow : UInt64) : UInt64 := if FP.dcmp (FP.dadd w ow) 0 = some .gt then FP.ddiv (FP.dadd (FP.dmul v w) (FP.dmul ov ow)) (FP.dadd w ow) else v
def okM (v w ov ow : UInt64) : Prop := vf_n64 (FP.dadd w ow) ∧ (FP.dcmp (FP.dadd w ow) 0 = some .gt → vf_n64 (FP.dmul v w) ∧ vf_n64 (FP.dmul ov ow) ∧ vf_n64 (FP.dadd (FP.dmul v w) (FP.dmul ov ow)) ∧ vf_n64 (FP.ddiv (FP.dadd (FP.dmul v w) (FP.dmul ov ow)) (FP.dadd w ow)))
set_option maxHeartbeats 4000000 in
set_option maxRecDepth 100000 in
/-- the lesser -/
theorem cM_lesser (l : Launch) (dC : Nat → ClassId) (dI : Nat → Nat → Nat) (tt : Nat → Nat) (sz : Nat) (x z : UInt64) : Ct l dC dI tt yM_lesser bM_lesser 4 (some .double) ({ frames := 0, cells := 0, slots := 0, locals := 0 }) [] [.double x, .double z] [] sz (fun A => ctQd dC dI [] (lesD x z) [] A) := by
  refine ct_of (by decide) (Nat.le_of_ble_eq_true rfl) ?_
  intro p e s m below meth c A ls hx hb hr hts hown hml hlocks hnm hA hS hP hK hD hT hl
  have hl : lv_has ls 4 [(0, .double x), (2, .double z)] := hl
  refine lv_dload_n hx hb dM_lesser_0 rfl (lv_at hl 1 rfl) ?_
  refine lv_dload_n hx hb dM_lesser_1 rfl (lv_at hl 0 rfl) ?_
  refine lv_dcmp hx hb dM_lesser_2 ?_
  refine lv_if_ge (tgt := 10) hx hb dM_lesser_3 (by decide) (fun c_1 => ?_) (fun c_1 => ?_)
  · refine lv_dload_n hx hb dM_lesser_10 rfl (lv_at hl 0 rfl) ?_
    exact ct_dret hx hb hr hlocks hP hK hD hS (by unfold lesD; rw [if_neg ((cv_g_ge _).mp c_1)]) dM_lesser_11
  · refine lv_dload_n hx hb dM_lesser_6 rfl (lv_at hl 1 rfl) ?_
    refine lv_goto (tgt := 11) hx hb dM_lesser_7 (by decide) ?_
    exact ct_dret hx hb hr hlocks hP hK hD hS (by unfold lesD; rw [if_pos (Classical.not_not.mp fun h => c_1 ((cv_g_ge _).mpr h))]) dM_lesser_11

set_option maxHeartbeats 4000000 in
set_option maxRecDepth 100000 in
/-- 0 to 100 -/
theorem cM_isTemperature (l : Launch) (dC : Nat → ClassId) (dI : Nat → Nat → Nat) (tt : Nat → Nat) (sz : Nat) (d : UInt64) : Ct l dC dI tt yM_isTemperature bM_isTemperature 2 (some .boolean) ({ frames := 0, cells := 0, slots := 0, locals := 0 }) [] [.double d] [] sz (fun A => ctQc dC dI [] (tpOK d) 1 [] 0 [] A) := by
  refine ct_of (by decide) (Nat.le_of_ble_eq_true rfl) ?_
  intro p e s m below meth c A ls hx hb hr hts hown hml hlocks hnm hA hS hP hK hD hT hl
  have hl : lv_has ls 2 [(0, .double d)] := hl
  refine lv_dload_n hx hb dM_isTemperature_0 rfl (lv_at hl 0 rfl) ?_
  refine lv_dconst0 hx hb dM_isTemperature_1 ?_
  refine ct_topd (y := 0) rfl ?_
  refine lv_dcmp hx hb dM_isTemperature_2 ?_
  refine lv_if_lt (tgt := 18) hx hb dM_isTemperature_3 (by decide) (fun c_1 => ?_) (fun c_1 => ?_)
  · refine lv_iconst (v := 0) hx hb dM_isTemperature_18 (by decide) ?_
    exact ct_ret0 hx hb hr rfl hlocks hP hK hD hS (fun h => by have := (cv_l_lt _).mp c_1; rcases h.1 with h2 | h2 <;> rw [h2] at this <;> simp at this) rfl dM_isTemperature_19
  · have h1 : FP.dcmp d 0 = some .gt ∨ FP.dcmp d 0 = some .eq := (cv_l_ge _).mp (Int32.not_lt.mp c_1)
    refine lv_dload_n hx hb dM_isTemperature_6 rfl (lv_at hl 0 rfl) ?_
    refine lv_ldc2d hx hb hown (hts _ tw_d_M_109) dM_isTemperature_7 ?_
    refine lv_dcmp hx hb dM_isTemperature_10 ?_
    refine lv_if_gt (tgt := 18) hx hb dM_isTemperature_11 (by decide) (fun c_2 => ?_) (fun c_2 => ?_)
    · refine lv_iconst (v := 0) hx hb dM_isTemperature_18 (by decide) ?_
      exact ct_ret0 hx hb hr rfl hlocks hP hK hD hS (fun h => by have := (cv_g_gt _).mp c_2; rcases h.2 with h2 | h2 <;> rw [h2] at this <;> simp at this) rfl dM_isTemperature_19
    · refine lv_iconst (v := 1) hx hb dM_isTemperature_14 (by decide) ?_
      refine lv_goto (tgt := 19) hx hb dM_isTemperature_15 (by decide) ?_
      exact ct_ret1 hx hb hr rfl hlocks hP hK hD hS ⟨h1, (cv_g_le _).mp (Int32.not_lt.mp c_2)⟩ rfl dM_isTemperature_19

set_option maxHeartbeats 4000000 in
set_option maxRecDepth 100000 in
/-- the mean weighed by water -/
theorem cM_mixed (l : Launch) (dC : Nat → ClassId) (dI : Nat → Nat → Nat) (tt : Nat → Nat) (sz : Nat) (v1 w1 v2 o1 : UInt64) (hok : okM v1 w1 v2 o1) : Ct l dC dI tt yM_mixed bM_mixed 10 (some .double) ({ frames := 0, cells := 0, slots := 0, locals := 0 }) [] [.double v1, .double w1, .double v2, .double o1] [] sz (fun A => ctQd dC dI [] (mixD v1 w1 v2 o1) [] A) := by
  refine ct_of (by decide) (Nat.le_of_ble_eq_true rfl) ?_
  intro p e s m below meth c A ls hx hb hr hts hown hml hlocks hnm hA hS hP hK hD hT hl
  have hl : lv_has ls 10 [(0, .double v1), (2, .double w1), (4, .double v2), (6, .double o1)] := hl
  refine lv_dload_n hx hb dM_mixed_0 rfl (lv_at hl 1 rfl) ?_
  refine lv_dload hx hb dM_mixed_1 (lv_at hl 3 rfl) ?_
  refine lv_dadd hx hb dM_mixed_3 (hok.1) ?_
  refine lv_dstore (lv' := [(8, .double (FP.dadd w1 o1)), (0, .double v1), (2, .double w1), (4, .double v2), (6, .double o1)]) hx hb dM_mixed_4 hl (by decide) rfl (fun ls hl => ?_)
  refine lv_dload hx hb dM_mixed_6 (lv_at hl 0 rfl) ?_
  refine lv_dconst0 hx hb dM_mixed_8 ?_
  refine ct_topd (y := 0) rfl ?_
  refine lv_dcmp hx hb dM_mixed_9 ?_
  refine lv_if_le (tgt := 28) hx hb dM_mixed_10 (by decide) (fun c_1 => ?_) (fun c_1 => ?_)
  · refine lv_dload_n hx hb dM_mixed_28 rfl (lv_at hl 1 rfl) ?_
    exact ct_dret hx hb hr hlocks hP hK hD hS (by unfold mixD; rw [if_neg ((cv_l_le _).mp c_1)]) dM_mixed_29
  · have hg : FP.dcmp (FP.dadd w1 o1) 0 = some .gt := Classical.not_not.mp fun h => c_1 ((cv_l_le _).mpr h)
    refine lv_dload_n hx hb dM_mixed_13 rfl (lv_at hl 1 rfl) ?_
    refine lv_dload_n hx hb dM_mixed_14 rfl (lv_at hl 2 rfl) ?_
    refine lv_dmul hx hb dM_mixed_15 ((hok.2 hg).1) ?_
    refine lv_dload hx hb dM_mixed_16 (lv_at hl 3 rfl) ?_
    refine lv_dload hx hb dM_mixed_18 (lv_at hl 4 rfl) ?_
    refine lv_dmul hx hb dM_mixed_20 ((hok.2 hg).2.1) ?_
    refine lv_dadd hx hb dM_mixed_21 ((hok.2 hg).2.2.1) ?_
    refine lv_dload hx hb dM_mixed_22 (lv_at hl 0 rfl) ?_
    refine lv_ddiv hx hb dM_mixed_24 ((hok.2 hg).2.2.2) ?_
    refine lv_goto (tgt := 29) hx hb dM_mixed_25 (by decide) ?_
    exact ct_dret hx hb hr hlocks hP hK hD hS (by unfold mixD; rw [if_pos hg]) dM_mixed_29

set_option maxHeartbeats 4000000 in
set_option maxRecDepth 100000 in
/-- empty -/
theorem cM_isEmpty (l : Launch) (dC : Nat → ClassId) (dI : Nat → Nat → Nat) (tt : Nat → Nat) (sz : Nat) (ad : Nat → Nat) (cA : Nat → ClassId) (a : Nat → UInt64) (dv : Nat → Nat → UInt64) (ib : Nat → Int32) (ac : Nat → UInt64) (hs : Nat → Int32) (ht : Nat → UInt64) (hc hn : Int32) (rv : Nat → UInt64) (ra : UInt64) (dc nw : Int32) (Tm Ac ts : UInt64) (gt lt : Int32) : Ct l dC dI tt yM_isEmpty bM_isEmpty 1 (some .boolean) ({ frames := 0, cells := 0, slots := 0, locals := 0 }) (tM cA) [.ref (ad 0)] (wM ad cA a dv ib ac hs ht hc hn rv ra dc nw Tm Ac ts gt lt) sz (fun A => ctQc dC dI (tM cA) (gt = 0 ∨ lt = 0) 1 (wM ad cA a dv ib ac hs ht hc hn rv ra dc nw Tm Ac ts gt lt) 0 (wM ad cA a dv ib ac hs ht hc hn rv ra dc nw Tm Ac ts gt lt) A) := by
  refine ct_of (by decide) (Nat.le_of_ble_eq_true rfl) ?_
  intro p e s m below meth c A ls hx hb hr hts hown hml hlocks hnm hA hS hP hK hD hT hl
  have hl : lv_has ls 1 [(0, .ref (ad 0))] := hl
  refine lv_aload_n hx hb dM_isEmpty_0 rfl (lv_at hl 0 rfl) ?_
  refine va_get (D := (dC, dI)) (ci := 0) (v := .int gt) (C := "MashEnzymes") (T := F_M) (N := 13) hx hb hts in_M hown hK hP 0 rfl rfl 11 (by decide) (hts _ tw_f_M_56) (fun _ h9 => h9) rfl dM_isEmpty_1 ?_
  refine lv_if_eq (tgt := 14) hx hb dM_isEmpty_4 (by decide) (fun c_1 => ?_) (fun c_1 => ?_)
  · refine lv_iconst (v := 1) hx hb dM_isEmpty_14 (by decide) ?_
    refine lv_goto (tgt := 19) hx hb dM_isEmpty_15 (by decide) ?_
    exact ct_ret1 hx hb hr rfl hlocks hP hK hD hS (Or.inl c_1) rfl dM_isEmpty_19
  · refine lv_aload_n hx hb dM_isEmpty_7 rfl (lv_at hl 0 rfl) ?_
    refine va_get (D := (dC, dI)) (ci := 0) (v := .int lt) (C := "MashEnzymes") (T := F_M) (N := 13) hx hb hts in_M hown hK hP 0 rfl rfl 12 (by decide) (hts _ tw_f_M_78) (fun _ h9 => h9) rfl dM_isEmpty_8 ?_
    refine lv_if_ne (tgt := 18) hx hb dM_isEmpty_11 (by decide) (fun c_2 => ?_) (fun c_2 => ?_)
    · refine lv_iconst (v := 0) hx hb dM_isEmpty_18 (by decide) ?_
      exact ct_ret0 hx hb hr rfl hlocks hP hK hD hS (fun h => h.elim c_1 c_2) rfl dM_isEmpty_19
    · refine lv_iconst (v := 1) hx hb dM_isEmpty_14 (by decide) ?_
      refine lv_goto (tgt := 19) hx hb dM_isEmpty_15 (by decide) ?_
      exact ct_ret1 hx hb hr rfl hlocks hP hK hD hS (Or.inr c_2) rfl dM_isEmpty_19

set_option maxHeartbeats 4000000 in
set_option maxRecDepth 100000 in
/-- how the acidity fits -/
theorem cM_acidityFitness (l : Launch) (dC : Nat → ClassId) (dI : Nat → Nat → Nat) (tt : Nat → Nat) (sz : Nat) (ad : Nat → Nat) (cA : Nat → ClassId) (a : Nat → UInt64) (dv : Nat → Nat → UInt64) (ib : Nat → Int32) (ac : Nat → UInt64) (hs : Nat → Int32) (ht : Nat → UInt64) (hc hn : Int32) (rv : Nat → UInt64) (ra : UInt64) (dc nw : Int32) (Tm Ac ts : UInt64) (gt lt : Int32) (hAc : ft_P Ac) : Ct l dC dI tt yM_acidityFitness bM_acidityFitness 3 (some .double) ({ frames := 0, cells := 0, slots := 0, locals := 0 }) (tM cA) [.ref (ad 0)] (wM ad cA a dv ib ac hs ht hc hn rv ra dc nw Tm Ac ts gt lt) sz (fun A => ctQd dC dI (tM cA) (fitA Ac) (wM ad cA a dv ib ac hs ht hc hn rv ra dc nw Tm Ac ts gt lt) A) := by
  refine ct_of (by decide) (Nat.le_of_ble_eq_true rfl) ?_
  intro p e s m below meth c A ls hx hb hr hts hown hml hlocks hnm hA hS hP hK hD hT hl
  have hl : lv_has ls 3 [(0, .ref (ad 0))] := hl
  refine lv_dconst1 hx hb dM_acidityFitness_0 ?_
  refine ct_topd (y := 4607182418800017408) rfl ?_
  refine lv_aload_n hx hb dM_acidityFitness_1 rfl (lv_at hl 0 rfl) ?_
  refine va_get (D := (dC, dI)) (ci := 0) (v := .double Ac) (C := "MashEnzymes") (T := F_M) (N := 13) hx hb hts in_M hown hK hP 0 rfl rfl 9 (by decide) (hts _ tw_f_M_75) (fun _ h9 => h9) rfl dM_acidityFitness_2 ?_
  refine lv_ldc2d hx hb hown (hts _ tw_d_M_149) dM_acidityFitness_5 ?_
  refine lv_dsub hx hb dM_acidityFitness_8 ((ft_fitness hAc).1) ?_
  refine lv_aload_n hx hb dM_acidityFitness_9 rfl (lv_at hl 0 rfl) ?_
  refine va_get (D := (dC, dI)) (ci := 0) (v := .double Ac) (C := "MashEnzymes") (T := F_M) (N := 13) hx hb hts in_M hown hK hP 0 rfl rfl 9 (by decide) (hts _ tw_f_M_75) (fun _ h9 => h9) rfl dM_acidityFitness_10 ?_
  refine lv_ldc2d hx hb hown (hts _ tw_d_M_149) dM_acidityFitness_13 ?_
  refine lv_dsub hx hb dM_acidityFitness_16 ((ft_fitness hAc).1) ?_
  refine lv_dmul hx hb dM_acidityFitness_17 ((ft_fitness hAc).2.1) ?_
  refine lv_ldc2d hx hb hown (hts _ tw_d_M_151) dM_acidityFitness_18 ?_
  refine lv_dmul hx hb dM_acidityFitness_21 ((ft_fitness hAc).2.2.1) ?_
  refine lv_dsub hx hb dM_acidityFitness_22 ((ft_fitness hAc).2.2.2.1) ?_
  refine lv_dstore_n (lv' := [(1, .double (FP.dsub 4607182418800017408 (FP.dmul (FP.dmul (FP.dsub Ac 4617878467915022336) (FP.dsub Ac 4617878467915022336)) 4598175219545276416))), (0, .ref (ad 0))]) hx hb dM_acidityFitness_23 rfl hl (by decide) rfl (fun ls hl => ?_)
  refine lv_dload_n hx hb dM_acidityFitness_24 rfl (lv_at hl 0 rfl) ?_
  refine lv_dconst0 hx hb dM_acidityFitness_25 ?_
  refine ct_topd (y := 0) rfl ?_
  refine lv_dcmp hx hb dM_acidityFitness_26 ?_
  refine lv_if_ge (tgt := 34) hx hb dM_acidityFitness_27 (by decide) (fun c_1 => ?_) (fun c_1 => ?_)
  · refine lv_dload_n hx hb dM_acidityFitness_34 rfl (lv_at hl 0 rfl) ?_
    exact ct_dret hx hb hr hlocks hP hK hD hS (by unfold fitA; rw [if_neg ((cv_g_ge _).mp c_1)]) dM_acidityFitness_35
  · refine lv_dconst0 hx hb dM_acidityFitness_30 ?_
    refine ct_topd (y := 0) rfl ?_
    refine lv_goto (tgt := 35) hx hb dM_acidityFitness_31 (by decide) ?_
    exact ct_dret hx hb hr hlocks hP hK hD hS (by unfold fitA; rw [if_pos (Classical.not_not.mp fun h => c_1 ((cv_g_ge _).mpr h))]) dM_acidityFitness_35

set_option maxHeartbeats 4000000 in
set_option maxRecDepth 100000 in
/-- (3) -/
theorem cM_gelStarch (l : Launch) (dC : Nat → ClassId) (dI : Nat → Nat → Nat) (tt : Nat → Nat) (sz : Nat) (ad : Nat → Nat) (cA : Nat → ClassId) (a : Nat → UInt64) (dv : Nat → Nat → UInt64) (ib : Nat → Int32) (ac : Nat → UInt64) (hs : Nat → Int32) (ht : Nat → UInt64) (hc hn : Int32) (rv : Nat → UInt64) (ra : UInt64) (dc nw : Int32) (Tm Ac ts : UInt64) (gt lt : Int32) (hok : ok3 a rv) : Ct l dC dI tt yM_gelStarch bM_gelStarch 3 none ({ frames := 1, cells := 0, slots := 0, locals := 20 }) (tM cA) [.ref (ad 0)] (wM ad cA a dv ib ac hs ht hc hn rv ra dc nw Tm Ac ts gt lt) sz (fun A => ctQv dC dI (tM cA) (wM ad cA (s3 a rv) dv ib ac hs ht hc hn rv ra dc nw Tm Ac ts gt lt) A) := by
  refine ct_of (by decide) (Nat.le_of_ble_eq_true rfl) ?_
  intro p e s m below meth c A ls hx hb hr hts hown hml hlocks hnm hA hS hP hK hD hT hl
  have hl : lv_has ls 3 [(0, .ref (ad 0))] := hl
  refine lv_aload_n hx hb dM_gelStarch_0 rfl (lv_at hl 0 rfl) ?_
  refine va_get (D := (dC, dI)) (ci := 0) (v := .ref (ad 1)) (C := "MashEnzymes") (T := F_M) (N := 13) hx hb hts in_M hown hK hP 0 rfl rfl 0 (by decide) (hts _ tw_f_M_9) (fun _ h9 => h9) rfl dM_gelStarch_1 ?_
  refine lv_iconst (v := 1) hx hb dM_gelStarch_4 (by decide) ?_
  refine ct_dald (k := 1) (v := a 1) hx hb hK hP 1 0 rfl rfl (by unfold vp_in; decide) (rfl) (rfl) dM_gelStarch_5 ?_
  refine lv_aload_n hx hb dM_gelStarch_6 rfl (lv_at hl 0 rfl) ?_
  refine va_get (D := (dC, dI)) (ci := 0) (v := .ref (ad 8)) (C := "MashEnzymes") (T := F_M) (N := 13) hx hb hts in_M hown hK hP 0 rfl rfl 5 (by decide) (hts _ tw_f_M_35) (fun _ h9 => h9) rfl dM_gelStarch_7 ?_
  refine ct_cvd (As := []) (rest := [.double (a 1)]) (wr := [((ad 0), .inr (0, [.ref (ad 1), .ref (ad 2), .ref (ad 3), .ref (ad 4), .ref (ad 5), .ref (ad 8), .int dc, .int nw, .double Tm, .double Ac, .double ts, .int gt, .int lt])), ((ad 1), .inl (cA 0, 13, .inr (.inr (.inr (.inl a))))), ((ad 2), .inl (cA 1, 8, .inr (.inr (.inr (.inr (fun i => if i < 8 then some (ad (i + 10)) else none)))))), ((ad 3), .inl (cA 2, 8, .inl ib)), ((ad 4), .inl (cA 3, 4, .inr (.inr (.inr (.inl ac))))), ((ad 5), .inr (1, [.ref (ad 6), .ref (ad 7), .int hc, .int hn])), ((ad 6), .inl (cA 4, 32, .inl hs)), ((ad 7), .inl (cA 5, 32, .inr (.inr (.inr (.inl ht))))), ((ad 10), .inl (cA 7, 13, .inr (.inr (.inr (.inl (dv 0)))))), ((ad 11), .inl (cA 7, 13, .inr (.inr (.inr (.inl (dv 1)))))), ((ad 12), .inl (cA 7, 13, .inr (.inr (.inr (.inl (dv 2)))))), ((ad 13), .inl (cA 7, 13, .inr (.inr (.inr (.inl (dv 3)))))), ((ad 14), .inl (cA 7, 13, .inr (.inr (.inr (.inl (dv 4)))))), ((ad 15), .inl (cA 7, 13, .inr (.inr (.inr (.inl (dv 5)))))), ((ad 16), .inl (cA 7, 13, .inr (.inr (.inr (.inl (dv 6)))))), ((ad 17), .inl (cA 7, 13, .inr (.inr (.inr (.inl (dv 7))))))]) (w1 := (wQ (ad 8) (ad 9) (cA 6) rv ra)) ⟨hx, hb, hml, hown, hts⟩ (cQ_gelling l dC dI tt _ (ad 8) (ad 9) (cA 6) rv ra) (gT_V tw_m_M_153 tw_i_yQ_gelling tw_s_yQ_gelling tw_I_Q tw_c_yQ_gelling) ⟨rfl, by decide +kernel, by decide +kernel, (by decide +kernel : (parseMethodDescriptor yQ_gelling.desc).map (fun d => d.parameters.length) = some 0)⟩ ⟨by decide, by decide⟩ (ci := 2) rfl rfl rfl hP hD hK hS hA hT [8, 9] [0, 1, 2, 3, 4, 5, 6, 7, 10, 11, 12, 13, 14, 15, 16, 17] [6] (by decide) rfl rfl (by decide) (by decide) rfl hl.1 rfl (Nat.le_of_ble_eq_true rfl) dM_gelStarch_10 ⟨by decide, by decide⟩ (fun H locs hP hD hS => ?_)
  have hP := hP.sub (ws' := (wM ad cA a dv ib ac hs ht hc hn rv ra dc nw Tm Ac ts gt lt)) [0, 1, 2, 3, 4, 5, 6, 7, 16, 17, 8, 9, 10, 11, 12, 13, 14, 15] rfl
  have hD := hD.sub (ws' := (wM ad cA a dv ib ac hs ht hc hn rv ra dc nw Tm Ac ts gt lt)) [0, 1, 2, 3, 4, 5, 6, 7, 16, 17, 8, 9, 10, 11, 12, 13, 14, 15] (by decide) rfl
  refine lv_dmul hx hb dM_gelStarch_13 (hok.1) ?_
  refine lv_dstore_n (lv' := [(1, .double (FP.dmul (a 1) (rv 8))), (0, .ref (ad 0))]) hx hb dM_gelStarch_14 rfl hl (by decide) rfl (fun ls hl => ?_)
  refine lv_aload_n hx hb dM_gelStarch_15 rfl (lv_at hl 1 rfl) ?_
  refine va_get (D := (dC, dI)) (ci := 0) (v := .ref (ad 1)) (C := "MashEnzymes") (T := F_M) (N := 13) hx hb hts in_M hown hK hP 0 rfl rfl 0 (by decide) (hts _ tw_f_M_9) (fun _ h9 => h9) rfl dM_gelStarch_16 ?_
  refine lv_iconst (v := 1) hx hb dM_gelStarch_19 (by decide) ?_
  refine lv_aload_n hx hb dM_gelStarch_20 rfl (lv_at hl 1 rfl) ?_
  refine va_get (D := (dC, dI)) (ci := 0) (v := .ref (ad 1)) (C := "MashEnzymes") (T := F_M) (N := 13) hx hb hts in_M hown hK hP 0 rfl rfl 0 (by decide) (hts _ tw_f_M_9) (fun _ h9 => h9) rfl dM_gelStarch_21 ?_
  refine lv_iconst (v := 1) hx hb dM_gelStarch_24 (by decide) ?_
  refine ct_dald (k := 1) (v := a 1) hx hb hK hP 1 0 rfl rfl (by unfold vp_in; decide) (rfl) (rfl) dM_gelStarch_25 ?_
  refine lv_dload_n hx hb dM_gelStarch_26 rfl (lv_at hl 0 rfl) ?_
  refine lv_dsub hx hb dM_gelStarch_27 (hok.2.1) ?_
  refine ct_dast (k := 1) (w1 := (wM ad cA (vf_upd a 1 (FP.dsub (a 1) (FP.dmul (a 1) (rv 8)))) dv ib ac hs ht hc hn rv ra dc nw Tm Ac ts gt lt)) hx hb hK hP hD hS 1 0 rfl rfl (by unfold vp_in; decide) (rfl) (rfl) dM_gelStarch_28 (fun H locs hP hD hS => ?_)
  refine lv_aload_n hx hb dM_gelStarch_29 rfl (lv_at hl 1 rfl) ?_
  refine va_get (D := (dC, dI)) (ci := 0) (v := .ref (ad 1)) (C := "MashEnzymes") (T := F_M) (N := 13) hx hb hts in_M hown hK hP 0 rfl rfl 0 (by decide) (hts _ tw_f_M_9) (fun _ h9 => h9) rfl dM_gelStarch_30 ?_
  refine lv_iconst (v := 2) hx hb dM_gelStarch_33 (by decide) ?_
  refine lv_aload_n hx hb dM_gelStarch_34 rfl (lv_at hl 1 rfl) ?_
  refine va_get (D := (dC, dI)) (ci := 0) (v := .ref (ad 1)) (C := "MashEnzymes") (T := F_M) (N := 13) hx hb hts in_M hown hK hP 0 rfl rfl 0 (by decide) (hts _ tw_f_M_9) (fun _ h9 => h9) rfl dM_gelStarch_35 ?_
  refine lv_iconst (v := 2) hx hb dM_gelStarch_38 (by decide) ?_
  refine ct_dald (k := 2) (v := a 2) hx hb hK hP 1 0 rfl rfl (by unfold vp_in; decide) (rfl) (rfl) dM_gelStarch_39 ?_
  refine lv_dload_n hx hb dM_gelStarch_40 rfl (lv_at hl 0 rfl) ?_
  refine lv_dadd hx hb dM_gelStarch_41 (hok.2.2) ?_
  refine ct_dast (k := 2) (w1 := (wM ad cA (vf_upd (vf_upd a 1 (FP.dsub (a 1) (FP.dmul (a 1) (rv 8)))) 2 (FP.dadd (a 2) (FP.dmul (a 1) (rv 8)))) dv ib ac hs ht hc hn rv ra dc nw Tm Ac ts gt lt)) hx hb hK hP hD hS 1 0 rfl rfl (by unfold vp_in; decide) (rfl) (rfl) dM_gelStarch_42 (fun H locs hP hD hS => ?_)
  exact ct_vret hx hb hr hlocks hP hK hD hS dM_gelStarch_43

set_option maxHeartbeats 4000000 in
set_option maxRecDepth 100000 in
/-- (4) -/
theorem cM_splitGelledStarch (l : Launch) (dC : Nat → ClassId) (dI : Nat → Nat → Nat) (tt : Nat → Nat) (sz : Nat) (ad : Nat → Nat) (cA : Nat → ClassId) (a : Nat → UInt64) (dv : Nat → Nat → UInt64) (ib : Nat → Int32) (ac : Nat → UInt64) (hs : Nat → Int32) (ht : Nat → UInt64) (hc hn : Int32) (rv : Nat → UInt64) (ra : UInt64) (dc nw : Int32) (Tm Ac ts : UInt64) (gt lt : Int32) (hok : ok4 a ac) : Ct l dC dI tt yM_splitGelledStarch bM_splitGelledStarch 3 none ({ frames := 0, cells := 0, slots := 0, locals := 0 }) (tM cA) [.ref (ad 0)] (wM ad cA a dv ib ac hs ht hc hn rv ra dc nw Tm Ac ts gt lt) sz (fun A => ctQv dC dI (tM cA) (wM ad cA (s4 a ac) dv ib ac hs ht hc hn rv ra dc nw Tm Ac ts gt lt) A) := by
  refine ct_of (by decide) (Nat.le_of_ble_eq_true rfl) ?_
  intro p e s m below meth c A ls hx hb hr hts hown hml hlocks hnm hA hS hP hK hD hT hl
  have hl : lv_has ls 3 [(0, .ref (ad 0))] := hl
  refine lv_aload_n hx hb dM_splitGelledStarch_0 rfl (lv_at hl 0 rfl) ?_
  refine va_get (D := (dC, dI)) (ci := 0) (v := .ref (ad 1)) (C := "MashEnzymes") (T := F_M) (N := 13) hx hb hts in_M hown hK hP 0 rfl rfl 0 (by decide) (hts _ tw_f_M_9) (fun _ h9 => h9) rfl dM_splitGelledStarch_1 ?_
  refine lv_iconst (v := 2) hx hb dM_splitGelledStarch_4 (by decide) ?_
  refine ct_dald (k := 2) (v := a 2) hx hb hK hP 1 0 rfl rfl (by unfold vp_in; decide) (rfl) (rfl) dM_splitGelledStarch_5 ?_
  refine lv_aload_n hx hb dM_splitGelledStarch_6 rfl (lv_at hl 0 rfl) ?_
  refine va_get (D := (dC, dI)) (ci := 0) (v := .ref (ad 4)) (C := "MashEnzymes") (T := F_M) (N := 13) hx hb hts in_M hown hK hP 0 rfl rfl 3 (by decide) (hts _ tw_f_M_22) (fun _ h9 => h9) rfl dM_splitGelledStarch_7 ?_
  refine lv_iconst (v := 0) hx hb dM_splitGelledStarch_10 (by decide) ?_
  refine ct_dald (k := 0) (v := ac 0) hx hb hK hP 4 3 rfl rfl (by unfold vp_in; decide) (rfl) (rfl) dM_splitGelledStarch_11 ?_
  refine lv_dmul hx hb dM_splitGelledStarch_12 (hok.1) ?_
  refine lv_dstore_n (lv' := [(1, .double (FP.dmul (a 2) (ac 0))), (0, .ref (ad 0))]) hx hb dM_splitGelledStarch_13 rfl hl (by decide) rfl (fun ls hl => ?_)
  refine lv_aload_n hx hb dM_splitGelledStarch_14 rfl (lv_at hl 1 rfl) ?_
  refine va_get (D := (dC, dI)) (ci := 0) (v := .ref (ad 1)) (C := "MashEnzymes") (T := F_M) (N := 13) hx hb hts in_M hown hK hP 0 rfl rfl 0 (by decide) (hts _ tw_f_M_9) (fun _ h9 => h9) rfl dM_splitGelledStarch_15 ?_
  refine lv_iconst (v := 2) hx hb dM_splitGelledStarch_18 (by decide) ?_
  refine lv_aload_n hx hb dM_splitGelledStarch_19 rfl (lv_at hl 1 rfl) ?_
  refine va_get (D := (dC, dI)) (ci := 0) (v := .ref (ad 1)) (C := "MashEnzymes") (T := F_M) (N := 13) hx hb hts in_M hown hK hP 0 rfl rfl 0 (by decide) (hts _ tw_f_M_9) (fun _ h9 => h9) rfl dM_splitGelledStarch_20 ?_
  refine lv_iconst (v := 2) hx hb dM_splitGelledStarch_23 (by decide) ?_
  refine ct_dald (k := 2) (v := a 2) hx hb hK hP 1 0 rfl rfl (by unfold vp_in; decide) (rfl) (rfl) dM_splitGelledStarch_24 ?_
  refine lv_dload_n hx hb dM_splitGelledStarch_25 rfl (lv_at hl 0 rfl) ?_
  refine lv_dsub hx hb dM_splitGelledStarch_26 (hok.2.1) ?_
  refine ct_dast (k := 2) (w1 := (wM ad cA (vf_upd a 2 (FP.dsub (a 2) (FP.dmul (a 2) (ac 0)))) dv ib ac hs ht hc hn rv ra dc nw Tm Ac ts gt lt)) hx hb hK hP hD hS 1 0 rfl rfl (by unfold vp_in; decide) (rfl) (rfl) dM_splitGelledStarch_27 (fun H locs hP hD hS => ?_)
  refine lv_aload_n hx hb dM_splitGelledStarch_28 rfl (lv_at hl 1 rfl) ?_
  refine va_get (D := (dC, dI)) (ci := 0) (v := .ref (ad 1)) (C := "MashEnzymes") (T := F_M) (N := 13) hx hb hts in_M hown hK hP 0 rfl rfl 0 (by decide) (hts _ tw_f_M_9) (fun _ h9 => h9) rfl dM_splitGelledStarch_29 ?_
  refine lv_bipush (v := 6) hx hb dM_splitGelledStarch_32 (by decide) ?_
  refine lv_aload_n hx hb dM_splitGelledStarch_34 rfl (lv_at hl 1 rfl) ?_
  refine va_get (D := (dC, dI)) (ci := 0) (v := .ref (ad 1)) (C := "MashEnzymes") (T := F_M) (N := 13) hx hb hts in_M hown hK hP 0 rfl rfl 0 (by decide) (hts _ tw_f_M_9) (fun _ h9 => h9) rfl dM_splitGelledStarch_35 ?_
  refine lv_bipush (v := 6) hx hb dM_splitGelledStarch_38 (by decide) ?_
  refine ct_dald (k := 6) (v := a 6) hx hb hK hP 1 0 rfl rfl (by unfold vp_in; decide) (rfl) (rfl) dM_splitGelledStarch_40 ?_
  refine lv_dload_n hx hb dM_splitGelledStarch_41 rfl (lv_at hl 0 rfl) ?_
  refine lv_ldc2d hx hb hown (hts _ tw_d_M_156) dM_splitGelledStarch_42 ?_
  refine lv_dmul hx hb dM_splitGelledStarch_45 (hok.2.2.1) ?_
  refine lv_dadd hx hb dM_splitGelledStarch_46 (hok.2.2.2.1) ?_
  refine ct_dast (k := 6) (w1 := (wM ad cA (vf_upd (vf_upd a 2 (FP.dsub (a 2) (FP.dmul (a 2) (ac 0)))) 6 (FP.dadd (a 6) (FP.dmul (FP.dmul (a 2) (ac 0)) 4604930618986332160))) dv ib ac hs ht hc hn rv ra dc nw Tm Ac ts gt lt)) hx hb hK hP hD hS 1 0 rfl rfl (by unfold vp_in; decide) (rfl) (rfl) dM_splitGelledStarch_47 (fun H locs hP hD hS => ?_)
  refine lv_aload_n hx hb dM_splitGelledStarch_48 rfl (lv_at hl 1 rfl) ?_
  refine va_get (D := (dC, dI)) (ci := 0) (v := .ref (ad 1)) (C := "MashEnzymes") (T := F_M) (N := 13) hx hb hts in_M hown hK hP 0 rfl rfl 0 (by decide) (hts _ tw_f_M_9) (fun _ h9 => h9) rfl dM_splitGelledStarch_49 ?_
  refine lv_iconst (v := 5) hx hb dM_splitGelledStarch_52 (by decide) ?_
  refine lv_aload_n hx hb dM_splitGelledStarch_53 rfl (lv_at hl 1 rfl) ?_
  refine va_get (D := (dC, dI)) (ci := 0) (v := .ref (ad 1)) (C := "MashEnzymes") (T := F_M) (N := 13) hx hb hts in_M hown hK hP 0 rfl rfl 0 (by decide) (hts _ tw_f_M_9) (fun _ h9 => h9) rfl dM_splitGelledStarch_54 ?_
  refine lv_iconst (v := 5) hx hb dM_splitGelledStarch_57 (by decide) ?_
  refine ct_dald (k := 5) (v := a 5) hx hb hK hP 1 0 rfl rfl (by unfold vp_in; decide) (rfl) (rfl) dM_splitGelledStarch_58 ?_
  refine lv_dload_n hx hb dM_splitGelledStarch_59 rfl (lv_at hl 0 rfl) ?_
  refine lv_ldc2d hx hb hown (hts _ tw_d_M_151) dM_splitGelledStarch_60 ?_
  refine lv_dmul hx hb dM_splitGelledStarch_63 (hok.2.2.2.2.1) ?_
  refine lv_dadd hx hb dM_splitGelledStarch_64 (hok.2.2.2.2.2) ?_
  refine ct_dast (k := 5) (w1 := (wM ad cA (vf_upd (vf_upd (vf_upd a 2 (FP.dsub (a 2) (FP.dmul (a 2) (ac 0)))) 6 (FP.dadd (a 6) (FP.dmul (FP.dmul (a 2) (ac 0)) 4604930618986332160))) 5 (FP.dadd (a 5) (FP.dmul (FP.dmul (a 2) (ac 0)) 4598175219545276416))) dv ib ac hs ht hc hn rv ra dc nw Tm Ac ts gt lt)) hx hb hK hP hD hS 1 0 rfl rfl (by unfold vp_in; decide) (rfl) (rfl) dM_splitGelledStarch_65 (fun H locs hP hD hS => ?_)
  exact ct_vret hx hb hr hlocks hP hK hD hS dM_splitGelledStarch_66

set_option maxHeartbeats 4000000 in
set_option maxRecDepth 100000 in
/-- (5) -/
theorem cM_splitDextrinsToMaltose (l : Launch) (dC : Nat → ClassId) (dI : Nat → Nat → Nat) (tt : Nat → Nat) (sz : Nat) (ad : Nat → Nat) (cA : Nat → ClassId) (a : Nat → UInt64) (dv : Nat → Nat → UInt64) (ib : Nat → Int32) (ac : Nat → UInt64) (hs : Nat → Int32) (ht : Nat → UInt64) (hc hn : Int32) (rv : Nat → UInt64) (ra : UInt64) (dc nw : Int32) (Tm Ac ts : UInt64) (gt lt : Int32) (hok : ok5 a ac) : Ct l dC dI tt yM_splitDextrinsToMaltose bM_splitDextrinsToMaltose 3 none ({ frames := 1, cells := 0, slots := 0, locals := 23 }) (tM cA) [.ref (ad 0)] (wM ad cA a dv ib ac hs ht hc hn rv ra dc nw Tm Ac ts gt lt) sz (fun A => ctQv dC dI (tM cA) (wM ad cA (s5 a ac) dv ib ac hs ht hc hn rv ra dc nw Tm Ac ts gt lt) A) := by
  refine ct_of (by decide) (Nat.le_of_ble_eq_true rfl) ?_
  intro p e s m below meth c A ls hx hb hr hts hown hml hlocks hnm hA hS hP hK hD hT hl
  have hl : lv_has ls 3 [(0, .ref (ad 0))] := hl
  refine lv_aload_n hx hb dM_splitDextrinsToMaltose_0 rfl (lv_at hl 0 rfl) ?_
  refine va_get (D := (dC, dI)) (ci := 0) (v := .ref (ad 1)) (C := "MashEnzymes") (T := F_M) (N := 13) hx hb hts in_M hown hK hP 0 rfl rfl 0 (by decide) (hts _ tw_f_M_9) (fun _ h9 => h9) rfl dM_splitDextrinsToMaltose_1 ?_
  refine lv_bipush (v := 6) hx hb dM_splitDextrinsToMaltose_4 (by decide) ?_
  refine ct_dald (k := 6) (v := a 6) hx hb hK hP 1 0 rfl rfl (by unfold vp_in; decide) (rfl) (rfl) dM_splitDextrinsToMaltose_6 ?_
  refine lv_aload_n hx hb dM_splitDextrinsToMaltose_7 rfl (lv_at hl 0 rfl) ?_
  refine va_get (D := (dC, dI)) (ci := 0) (v := .ref (ad 4)) (C := "MashEnzymes") (T := F_M) (N := 13) hx hb hts in_M hown hK hP 0 rfl rfl 3 (by decide) (hts _ tw_f_M_22) (fun _ h9 => h9) rfl dM_splitDextrinsToMaltose_8 ?_
  refine lv_iconst (v := 1) hx hb dM_splitDextrinsToMaltose_11 (by decide) ?_
  refine ct_dald (k := 1) (v := ac 1) hx hb hK hP 4 3 rfl rfl (by unfold vp_in; decide) (rfl) (rfl) dM_splitDextrinsToMaltose_12 ?_
  refine lv_dmul hx hb dM_splitDextrinsToMaltose_13 (hok.1) ?_
  refine lv_aload_n hx hb dM_splitDextrinsToMaltose_14 rfl (lv_at hl 0 rfl) ?_
  refine va_get (D := (dC, dI)) (ci := 0) (v := .ref (ad 1)) (C := "MashEnzymes") (T := F_M) (N := 13) hx hb hts in_M hown hK hP 0 rfl rfl 0 (by decide) (hts _ tw_f_M_9) (fun _ h9 => h9) rfl dM_splitDextrinsToMaltose_15 ?_
  refine lv_iconst (v := 0) hx hb dM_splitDextrinsToMaltose_18 (by decide) ?_
  refine ct_dald (k := 0) (v := a 0) hx hb hK hP 1 0 rfl rfl (by unfold vp_in; decide) (rfl) (rfl) dM_splitDextrinsToMaltose_19 ?_
  refine lv_ldc2d hx hb hown (hts _ tw_d_M_54) dM_splitDextrinsToMaltose_20 ?_
  refine lv_dmul hx hb dM_splitDextrinsToMaltose_23 (hok.2.1) ?_
  refine ct_csd (As := [.double (FP.dmul (a 6) (ac 1)), .double (FP.dmul (a 0) 4620693217682128896)]) (rest := []) (wr := (wM ad cA a dv ib ac hs ht hc hn rv ra dc nw Tm Ac ts gt lt)) ⟨hx, hb, hml, hown, hts⟩ (cM_lesser l dC dI tt _ (FP.dmul (a 6) (ac 1)) (FP.dmul (a 0) 4620693217682128896)) (gT_S tw_m_M_158 tw_st_yM_lesser tw_I_M tw_c_yM_lesser) ⟨by decide +kernel, by decide +kernel, (by decide +kernel : (parseMethodDescriptor yM_lesser.desc).map (fun d => d.parameters.length) = some 2)⟩ ⟨by decide, by decide⟩ hP hD hK hS hA hT [0, 1, 2, 3, 4, 5, 6, 7, 8, 9, 10, 11, 12, 13, 14, 15, 16, 17] rfl (by decide) hl.1 rfl (Nat.le_of_ble_eq_true rfl) dM_splitDextrinsToMaltose_24 ⟨by decide, by decide⟩ (fun H locs hP hD hS => ?_)
  refine lv_dstore_n (lv' := [(1, .double (y5 a ac)), (0, .ref (ad 0))]) hx hb dM_splitDextrinsToMaltose_27 rfl hl (by decide) rfl (fun ls hl => ?_)
  refine lv_aload_n hx hb dM_splitDextrinsToMaltose_28 rfl (lv_at hl 1 rfl) ?_
  refine va_get (D := (dC, dI)) (ci := 0) (v := .ref (ad 1)) (C := "MashEnzymes") (T := F_M) (N := 13) hx hb hts in_M hown hK hP 0 rfl rfl 0 (by decide) (hts _ tw_f_M_9) (fun _ h9 => h9) rfl dM_splitDextrinsToMaltose_29 ?_
  refine lv_bipush (v := 6) hx hb dM_splitDextrinsToMaltose_32 (by decide) ?_
  refine lv_aload_n hx hb dM_splitDextrinsToMaltose_34 rfl (lv_at hl 1 rfl) ?_
  refine va_get (D := (dC, dI)) (ci := 0) (v := .ref (ad 1)) (C := "MashEnzymes") (T := F_M) (N := 13) hx hb hts in_M hown hK hP 0 rfl rfl 0 (by decide) (hts _ tw_f_M_9) (fun _ h9 => h9) rfl dM_splitDextrinsToMaltose_35 ?_
  refine lv_bipush (v := 6) hx hb dM_splitDextrinsToMaltose_38 (by decide) ?_
  refine ct_dald (k := 6) (v := a 6) hx hb hK hP 1 0 rfl rfl (by unfold vp_in; decide) (rfl) (rfl) dM_splitDextrinsToMaltose_40 ?_
  refine lv_dload_n hx hb dM_splitDextrinsToMaltose_41 rfl (lv_at hl 0 rfl) ?_
  refine lv_dsub hx hb dM_splitDextrinsToMaltose_42 (hok.2.2.1) ?_
  refine ct_dast (k := 6) (w1 := (wM ad cA (vf_upd a 6 (FP.dsub (a 6) (y5 a ac))) dv ib ac hs ht hc hn rv ra dc nw Tm Ac ts gt lt)) hx hb hK hP hD hS 1 0 rfl rfl (by unfold vp_in; decide) (rfl) (rfl) dM_splitDextrinsToMaltose_43 (fun H locs hP hD hS => ?_)
  refine lv_aload_n hx hb dM_splitDextrinsToMaltose_44 rfl (lv_at hl 1 rfl) ?_
  refine va_get (D := (dC, dI)) (ci := 0) (v := .ref (ad 1)) (C := "MashEnzymes") (T := F_M) (N := 13) hx hb hts in_M hown hK hP 0 rfl rfl 0 (by decide) (hts _ tw_f_M_9) (fun _ h9 => h9) rfl dM_splitDextrinsToMaltose_45 ?_
  refine lv_iconst (v := 4) hx hb dM_splitDextrinsToMaltose_48 (by decide) ?_
  refine lv_aload_n hx hb dM_splitDextrinsToMaltose_49 rfl (lv_at hl 1 rfl) ?_
  refine va_get (D := (dC, dI)) (ci := 0) (v := .ref (ad 1)) (C := "MashEnzymes") (T := F_M) (N := 13) hx hb hts in_M hown hK hP 0 rfl rfl 0 (by decide) (hts _ tw_f_M_9) (fun _ h9 => h9) rfl dM_splitDextrinsToMaltose_50 ?_
  refine lv_iconst (v := 4) hx hb dM_splitDextrinsToMaltose_53 (by decide) ?_
  refine ct_dald (k := 4) (v := a 4) hx hb hK hP 1 0 rfl rfl (by unfold vp_in; decide) (rfl) (rfl) dM_splitDextrinsToMaltose_54 ?_
  refine lv_dload_n hx hb dM_splitDextrinsToMaltose_55 rfl (lv_at hl 0 rfl) ?_
  refine lv_ldc2d hx hb hown (hts _ tw_d_M_162) dM_splitDextrinsToMaltose_56 ?_
  refine lv_dmul hx hb dM_splitDextrinsToMaltose_59 (hok.2.2.2.1) ?_
  refine lv_dadd hx hb dM_splitDextrinsToMaltose_60 (hok.2.2.2.2.1) ?_
  refine ct_dast (k := 4) (w1 := (wM ad cA (vf_upd (vf_upd a 6 (FP.dsub (a 6) (y5 a ac))) 4 (FP.dadd (a 4) (FP.dmul (y5 a ac) 4607463893776728064))) dv ib ac hs ht hc hn rv ra dc nw Tm Ac ts gt lt)) hx hb hK hP hD hS 1 0 rfl rfl (by unfold vp_in; decide) (rfl) (rfl) dM_splitDextrinsToMaltose_61 (fun H locs hP hD hS => ?_)
  refine lv_aload_n hx hb dM_splitDextrinsToMaltose_62 rfl (lv_at hl 1 rfl) ?_
  refine va_get (D := (dC, dI)) (ci := 0) (v := .ref (ad 1)) (C := "MashEnzymes") (T := F_M) (N := 13) hx hb hts in_M hown hK hP 0 rfl rfl 0 (by decide) (hts _ tw_f_M_9) (fun _ h9 => h9) rfl dM_splitDextrinsToMaltose_63 ?_
  refine lv_iconst (v := 0) hx hb dM_splitDextrinsToMaltose_66 (by decide) ?_
  refine lv_aload_n hx hb dM_splitDextrinsToMaltose_67 rfl (lv_at hl 1 rfl) ?_
  refine va_get (D := (dC, dI)) (ci := 0) (v := .ref (ad 1)) (C := "MashEnzymes") (T := F_M) (N := 13) hx hb hts in_M hown hK hP 0 rfl rfl 0 (by decide) (hts _ tw_f_M_9) (fun _ h9 => h9) rfl dM_splitDextrinsToMaltose_68 ?_
  refine lv_iconst (v := 0) hx hb dM_splitDextrinsToMaltose_71 (by decide) ?_
  refine ct_dald (k := 0) (v := a 0) hx hb hK hP 1 0 rfl rfl (by unfold vp_in; decide) (rfl) (rfl) dM_splitDextrinsToMaltose_72 ?_
  refine lv_dload_n hx hb dM_splitDextrinsToMaltose_73 rfl (lv_at hl 0 rfl) ?_
  refine lv_ldc2d hx hb hown (hts _ tw_d_M_147) dM_splitDextrinsToMaltose_74 ?_
  refine lv_dmul hx hb dM_splitDextrinsToMaltose_77 (hok.2.2.2.2.2.1) ?_
  refine lv_dsub hx hb dM_splitDextrinsToMaltose_78 (hok.2.2.2.2.2.2) ?_
  refine ct_dast (k := 0) (w1 := (wM ad cA (vf_upd (vf_upd (vf_upd a 6 (FP.dsub (a 6) (y5 a ac))) 4 (FP.dadd (a 4) (FP.dmul (y5 a ac) 4607463893776728064))) 0 (FP.dsub (a 0) (FP.dmul (y5 a ac) 4589168020290535424))) dv ib ac hs ht hc hn rv ra dc nw Tm Ac ts gt lt)) hx hb hK hP hD hS 1 0 rfl rfl (by unfold vp_in; decide) (rfl) (rfl) dM_splitDextrinsToMaltose_79 (fun H locs hP hD hS => ?_)
  exact ct_vret hx hb hr hlocks hP hK hD hS dM_splitDextrinsToMaltose_80

set_option maxHeartbeats 4000000 in
set_option maxRecDepth 100000 in
/-- (6) -/
theorem cM_splitDextrinsToGlucose (l : Launch) (dC : Nat → ClassId) (dI : Nat → Nat → Nat) (tt : Nat → Nat) (sz : Nat) (ad : Nat → Nat) (cA : Nat → ClassId) (a : Nat → UInt64) (dv : Nat → Nat → UInt64) (ib : Nat → Int32) (ac : Nat → UInt64) (hs : Nat → Int32) (ht : Nat → UInt64) (hc hn : Int32) (rv : Nat → UInt64) (ra : UInt64) (dc nw : Int32) (Tm Ac ts : UInt64) (gt lt : Int32) (hok : ok6 a ac) : Ct l dC dI tt yM_splitDextrinsToGlucose bM_splitDextrinsToGlucose 3 none ({ frames := 1, cells := 0, slots := 0, locals := 23 }) (tM cA) [.ref (ad 0)] (wM ad cA a dv ib ac hs ht hc hn rv ra dc nw Tm Ac ts gt lt) sz (fun A => ctQv dC dI (tM cA) (wM ad cA (s6 a ac) dv ib ac hs ht hc hn rv ra dc nw Tm Ac ts gt lt) A) := by
  refine ct_of (by decide) (Nat.le_of_ble_eq_true rfl) ?_
  intro p e s m below meth c A ls hx hb hr hts hown hml hlocks hnm hA hS hP hK hD hT hl
  have hl : lv_has ls 3 [(0, .ref (ad 0))] := hl
  refine lv_aload_n hx hb dM_splitDextrinsToGlucose_0 rfl (lv_at hl 0 rfl) ?_
  refine va_get (D := (dC, dI)) (ci := 0) (v := .ref (ad 1)) (C := "MashEnzymes") (T := F_M) (N := 13) hx hb hts in_M hown hK hP 0 rfl rfl 0 (by decide) (hts _ tw_f_M_9) (fun _ h9 => h9) rfl dM_splitDextrinsToGlucose_1 ?_
  refine lv_bipush (v := 6) hx hb dM_splitDextrinsToGlucose_4 (by decide) ?_
  refine ct_dald (k := 6) (v := a 6) hx hb hK hP 1 0 rfl rfl (by unfold vp_in; decide) (rfl) (rfl) dM_splitDextrinsToGlucose_6 ?_
  refine lv_aload_n hx hb dM_splitDextrinsToGlucose_7 rfl (lv_at hl 0 rfl) ?_
  refine va_get (D := (dC, dI)) (ci := 0) (v := .ref (ad 4)) (C := "MashEnzymes") (T := F_M) (N := 13) hx hb hts in_M hown hK hP 0 rfl rfl 3 (by decide) (hts _ tw_f_M_22) (fun _ h9 => h9) rfl dM_splitDextrinsToGlucose_8 ?_
  refine lv_iconst (v := 2) hx hb dM_splitDextrinsToGlucose_11 (by decide) ?_
  refine ct_dald (k := 2) (v := ac 2) hx hb hK hP 4 3 rfl rfl (by unfold vp_in; decide) (rfl) (rfl) dM_splitDextrinsToGlucose_12 ?_
  refine lv_dmul hx hb dM_splitDextrinsToGlucose_13 (hok.1) ?_
  refine lv_aload_n hx hb dM_splitDextrinsToGlucose_14 rfl (lv_at hl 0 rfl) ?_
  refine va_get (D := (dC, dI)) (ci := 0) (v := .ref (ad 1)) (C := "MashEnzymes") (T := F_M) (N := 13) hx hb hts in_M hown hK hP 0 rfl rfl 0 (by decide) (hts _ tw_f_M_9) (fun _ h9 => h9) rfl dM_splitDextrinsToGlucose_15 ?_
  refine lv_iconst (v := 0) hx hb dM_splitDextrinsToGlucose_18 (by decide) ?_
  refine ct_dald (k := 0) (v := a 0) hx hb hK hP 1 0 rfl rfl (by unfold vp_in; decide) (rfl) (rfl) dM_splitDextrinsToGlucose_19 ?_
  refine lv_ldc2d hx hb hown (hts _ tw_d_M_164) dM_splitDextrinsToGlucose_20 ?_
  refine lv_dmul hx hb dM_splitDextrinsToGlucose_23 (hok.2.1) ?_
  refine ct_csd (As := [.double (FP.dmul (a 6) (ac 2)), .double (FP.dmul (a 0) 4611686018427387904)]) (rest := []) (wr := (wM ad cA a dv ib ac hs ht hc hn rv ra dc nw Tm Ac ts gt lt)) ⟨hx, hb, hml, hown, hts⟩ (cM_lesser l dC dI tt _ (FP.dmul (a 6) (ac 2)) (FP.dmul (a 0) 4611686018427387904)) (gT_S tw_m_M_158 tw_st_yM_lesser tw_I_M tw_c_yM_lesser) ⟨by decide +kernel, by decide +kernel, (by decide +kernel : (parseMethodDescriptor yM_lesser.desc).map (fun d => d.parameters.length) = some 2)⟩ ⟨by decide, by decide⟩ hP hD hK hS hA hT [0, 1, 2, 3, 4, 5, 6, 7, 8, 9, 10, 11, 12, 13, 14, 15, 16, 17] rfl (by decide) hl.1 rfl (Nat.le_of_ble_eq_true rfl) dM_splitDextrinsToGlucose_24 ⟨by decide, by decide⟩ (fun H locs hP hD hS => ?_)
  refine lv_dstore_n (lv' := [(1, .double (z6 a ac)), (0, .ref (ad 0))]) hx hb dM_splitDextrinsToGlucose_27 rfl hl (by decide) rfl (fun ls hl => ?_)
  refine lv_aload_n hx hb dM_splitDextrinsToGlucose_28 rfl (lv_at hl 1 rfl) ?_
  refine va_get (D := (dC, dI)) (ci := 0) (v := .ref (ad 1)) (C := "MashEnzymes") (T := F_M) (N := 13) hx hb hts in_M hown hK hP 0 rfl rfl 0 (by decide) (hts _ tw_f_M_9) (fun _ h9 => h9) rfl dM_splitDextrinsToGlucose_29 ?_
  refine lv_bipush (v := 6) hx hb dM_splitDextrinsToGlucose_32 (by decide) ?_
  refine lv_aload_n hx hb dM_splitDextrinsToGlucose_34 rfl (lv_at hl 1 rfl) ?_
  refine va_get (D := (dC, dI)) (ci := 0) (v := .ref (ad 1)) (C := "MashEnzymes") (T := F_M) (N := 13) hx hb hts in_M hown hK hP 0 rfl rfl 0 (by decide) (hts _ tw_f_M_9) (fun _ h9 => h9) rfl dM_splitDextrinsToGlucose_35 ?_
  refine lv_bipush (v := 6) hx hb dM_splitDextrinsToGlucose_38 (by decide) ?_
  refine ct_dald (k := 6) (v := a 6) hx hb hK hP 1 0 rfl rfl (by unfold vp_in; decide) (rfl) (rfl) dM_splitDextrinsToGlucose_40 ?_
  refine lv_dload_n hx hb dM_splitDextrinsToGlucose_41 rfl (lv_at hl 0 rfl) ?_
  refine lv_dsub hx hb dM_splitDextrinsToGlucose_42 (hok.2.2.1) ?_
  refine ct_dast (k := 6) (w1 := (wM ad cA (vf_upd a 6 (FP.dsub (a 6) (z6 a ac))) dv ib ac hs ht hc hn rv ra dc nw Tm Ac ts gt lt)) hx hb hK hP hD hS 1 0 rfl rfl (by unfold vp_in; decide) (rfl) (rfl) dM_splitDextrinsToGlucose_43 (fun H locs hP hD hS => ?_)
  refine lv_aload_n hx hb dM_splitDextrinsToGlucose_44 rfl (lv_at hl 1 rfl) ?_
  refine va_get (D := (dC, dI)) (ci := 0) (v := .ref (ad 1)) (C := "MashEnzymes") (T := F_M) (N := 13) hx hb hts in_M hown hK hP 0 rfl rfl 0 (by decide) (hts _ tw_f_M_9) (fun _ h9 => h9) rfl dM_splitDextrinsToGlucose_45 ?_
  refine lv_iconst (v := 3) hx hb dM_splitDextrinsToGlucose_48 (by decide) ?_
  refine lv_aload_n hx hb dM_splitDextrinsToGlucose_49 rfl (lv_at hl 1 rfl) ?_
  refine va_get (D := (dC, dI)) (ci := 0) (v := .ref (ad 1)) (C := "MashEnzymes") (T := F_M) (N := 13) hx hb hts in_M hown hK hP 0 rfl rfl 0 (by decide) (hts _ tw_f_M_9) (fun _ h9 => h9) rfl dM_splitDextrinsToGlucose_50 ?_
  refine lv_iconst (v := 3) hx hb dM_splitDextrinsToGlucose_53 (by decide) ?_
  refine ct_dald (k := 3) (v := a 3) hx hb hK hP 1 0 rfl rfl (by unfold vp_in; decide) (rfl) (rfl) dM_splitDextrinsToGlucose_54 ?_
  refine lv_dload_n hx hb dM_splitDextrinsToGlucose_55 rfl (lv_at hl 0 rfl) ?_
  refine lv_ldc2d hx hb hown (hts _ tw_d_M_166) dM_splitDextrinsToGlucose_56 ?_
  refine lv_dmul hx hb dM_splitDextrinsToGlucose_59 (hok.2.2.2.1) ?_
  refine lv_dadd hx hb dM_splitDextrinsToGlucose_60 (hok.2.2.2.2.1) ?_
  refine ct_dast (k := 3) (w1 := (wM ad cA (vf_upd (vf_upd a 6 (FP.dsub (a 6) (z6 a ac))) 3 (FP.dadd (a 3) (FP.dmul (z6 a ac) 4607745368753438720))) dv ib ac hs ht hc hn rv ra dc nw Tm Ac ts gt lt)) hx hb hK hP hD hS 1 0 rfl rfl (by unfold vp_in; decide) (rfl) (rfl) dM_splitDextrinsToGlucose_61 (fun H locs hP hD hS => ?_)
  refine lv_aload_n hx hb dM_splitDextrinsToGlucose_62 rfl (lv_at hl 1 rfl) ?_
  refine va_get (D := (dC, dI)) (ci := 0) (v := .ref (ad 1)) (C := "MashEnzymes") (T := F_M) (N := 13) hx hb hts in_M hown hK hP 0 rfl rfl 0 (by decide) (hts _ tw_f_M_9) (fun _ h9 => h9) rfl dM_splitDextrinsToGlucose_63 ?_
  refine lv_iconst (v := 0) hx hb dM_splitDextrinsToGlucose_66 (by decide) ?_
  refine lv_aload_n hx hb dM_splitDextrinsToGlucose_67 rfl (lv_at hl 1 rfl) ?_
  refine va_get (D := (dC, dI)) (ci := 0) (v := .ref (ad 1)) (C := "MashEnzymes") (T := F_M) (N := 13) hx hb hts in_M hown hK hP 0 rfl rfl 0 (by decide) (hts _ tw_f_M_9) (fun _ h9 => h9) rfl dM_splitDextrinsToGlucose_68 ?_
  refine lv_iconst (v := 0) hx hb dM_splitDextrinsToGlucose_71 (by decide) ?_
  refine ct_dald (k := 0) (v := a 0) hx hb hK hP 1 0 rfl rfl (by unfold vp_in; decide) (rfl) (rfl) dM_splitDextrinsToGlucose_72 ?_
  refine lv_dload_n hx hb dM_splitDextrinsToGlucose_73 rfl (lv_at hl 0 rfl) ?_
  refine lv_ldc2d hx hb hown (hts _ tw_d_M_168) dM_splitDextrinsToGlucose_74 ?_
  refine lv_dmul hx hb dM_splitDextrinsToGlucose_77 (hok.2.2.2.2.2.1) ?_
  refine lv_dsub hx hb dM_splitDextrinsToGlucose_78 (hok.2.2.2.2.2.2) ?_
  refine ct_dast (k := 0) (w1 := (wM ad cA (vf_upd (vf_upd (vf_upd a 6 (FP.dsub (a 6) (z6 a ac))) 3 (FP.dadd (a 3) (FP.dmul (z6 a ac) 4607745368753438720))) 0 (FP.dsub (a 0) (FP.dmul (z6 a ac) 4593671619917905920))) dv ib ac hs ht hc hn rv ra dc nw Tm Ac ts gt lt)) hx hb hK hP hD hS 1 0 rfl rfl (by unfold vp_in; decide) (rfl) (rfl) dM_splitDextrinsToGlucose_79 (fun H locs hP hD hS => ?_)
  exact ct_vret hx hb hr hlocks hP hK hD hS dM_splitDextrinsToGlucose_80

set_option maxHeartbeats 4000000 in
set_option maxRecDepth 100000 in
/-- (7) -/
theorem cM_splitProtein (l : Launch) (dC : Nat → ClassId) (dI : Nat → Nat → Nat) (tt : Nat → Nat) (sz : Nat) (ad : Nat → Nat) (cA : Nat → ClassId) (a : Nat → UInt64) (dv : Nat → Nat → UInt64) (ib : Nat → Int32) (ac : Nat → UInt64) (hs : Nat → Int32) (ht : Nat → UInt64) (hc hn : Int32) (rv : Nat → UInt64) (ra : UInt64) (dc nw : Int32) (Tm Ac ts : UInt64) (gt lt : Int32) (hok : ok7 a ac) : Ct l dC dI tt yM_splitProtein bM_splitProtein 3 none ({ frames := 0, cells := 0, slots := 0, locals := 0 }) (tM cA) [.ref (ad 0)] (wM ad cA a dv ib ac hs ht hc hn rv ra dc nw Tm Ac ts gt lt) sz (fun A => ctQv dC dI (tM cA) (wM ad cA (s7 a ac) dv ib ac hs ht hc hn rv ra dc nw Tm Ac ts gt lt) A) := by
  refine ct_of (by decide) (Nat.le_of_ble_eq_true rfl) ?_
  intro p e s m below meth c A ls hx hb hr hts hown hml hlocks hnm hA hS hP hK hD hT hl
  have hl : lv_has ls 3 [(0, .ref (ad 0))] := hl
  refine lv_aload_n hx hb dM_splitProtein_0 rfl (lv_at hl 0 rfl) ?_
  refine va_get (D := (dC, dI)) (ci := 0) (v := .ref (ad 1)) (C := "MashEnzymes") (T := F_M) (N := 13) hx hb hts in_M hown hK hP 0 rfl rfl 0 (by decide) (hts _ tw_f_M_9) (fun _ h9 => h9) rfl dM_splitProtein_1 ?_
  refine lv_bipush (v := 8) hx hb dM_splitProtein_4 (by decide) ?_
  refine ct_dald (k := 8) (v := a 8) hx hb hK hP 1 0 rfl rfl (by unfold vp_in; decide) (rfl) (rfl) dM_splitProtein_6 ?_
  refine lv_aload_n hx hb dM_splitProtein_7 rfl (lv_at hl 0 rfl) ?_
  refine va_get (D := (dC, dI)) (ci := 0) (v := .ref (ad 4)) (C := "MashEnzymes") (T := F_M) (N := 13) hx hb hts in_M hown hK hP 0 rfl rfl 3 (by decide) (hts _ tw_f_M_22) (fun _ h9 => h9) rfl dM_splitProtein_8 ?_
  refine lv_iconst (v := 3) hx hb dM_splitProtein_11 (by decide) ?_
  refine ct_dald (k := 3) (v := ac 3) hx hb hK hP 4 3 rfl rfl (by unfold vp_in; decide) (rfl) (rfl) dM_splitProtein_12 ?_
  refine lv_dmul hx hb dM_splitProtein_13 (hok.1) ?_
  refine lv_dstore_n (lv' := [(1, .double (FP.dmul (a 8) (ac 3))), (0, .ref (ad 0))]) hx hb dM_splitProtein_14 rfl hl (by decide) rfl (fun ls hl => ?_)
  refine lv_aload_n hx hb dM_splitProtein_15 rfl (lv_at hl 1 rfl) ?_
  refine va_get (D := (dC, dI)) (ci := 0) (v := .ref (ad 1)) (C := "MashEnzymes") (T := F_M) (N := 13) hx hb hts in_M hown hK hP 0 rfl rfl 0 (by decide) (hts _ tw_f_M_9) (fun _ h9 => h9) rfl dM_splitProtein_16 ?_
  refine lv_bipush (v := 8) hx hb dM_splitProtein_19 (by decide) ?_
  refine lv_aload_n hx hb dM_splitProtein_21 rfl (lv_at hl 1 rfl) ?_
  refine va_get (D := (dC, dI)) (ci := 0) (v := .ref (ad 1)) (C := "MashEnzymes") (T := F_M) (N := 13) hx hb hts in_M hown hK hP 0 rfl rfl 0 (by decide) (hts _ tw_f_M_9) (fun _ h9 => h9) rfl dM_splitProtein_22 ?_
  refine lv_bipush (v := 8) hx hb dM_splitProtein_25 (by decide) ?_
  refine ct_dald (k := 8) (v := a 8) hx hb hK hP 1 0 rfl rfl (by unfold vp_in; decide) (rfl) (rfl) dM_splitProtein_27 ?_
  refine lv_dload_n hx hb dM_splitProtein_28 rfl (lv_at hl 0 rfl) ?_
  refine lv_dsub hx hb dM_splitProtein_29 (hok.2.1) ?_
  refine ct_dast (k := 8) (w1 := (wM ad cA (vf_upd a 8 (FP.dsub (a 8) (FP.dmul (a 8) (ac 3)))) dv ib ac hs ht hc hn rv ra dc nw Tm Ac ts gt lt)) hx hb hK hP hD hS 1 0 rfl rfl (by unfold vp_in; decide) (rfl) (rfl) dM_splitProtein_30 (fun H locs hP hD hS => ?_)
  refine lv_aload_n hx hb dM_splitProtein_31 rfl (lv_at hl 1 rfl) ?_
  refine va_get (D := (dC, dI)) (ci := 0) (v := .ref (ad 1)) (C := "MashEnzymes") (T := F_M) (N := 13) hx hb hts in_M hown hK hP 0 rfl rfl 0 (by decide) (hts _ tw_f_M_9) (fun _ h9 => h9) rfl dM_splitProtein_32 ?_
  refine lv_bipush (v := 7) hx hb dM_splitProtein_35 (by decide) ?_
  refine lv_aload_n hx hb dM_splitProtein_37 rfl (lv_at hl 1 rfl) ?_
  refine va_get (D := (dC, dI)) (ci := 0) (v := .ref (ad 1)) (C := "MashEnzymes") (T := F_M) (N := 13) hx hb hts in_M hown hK hP 0 rfl rfl 0 (by decide) (hts _ tw_f_M_9) (fun _ h9 => h9) rfl dM_splitProtein_38 ?_
  refine lv_bipush (v := 7) hx hb dM_splitProtein_41 (by decide) ?_
  refine ct_dald (k := 7) (v := a 7) hx hb hK hP 1 0 rfl rfl (by unfold vp_in; decide) (rfl) (rfl) dM_splitProtein_43 ?_
  refine lv_dload_n hx hb dM_splitProtein_44 rfl (lv_at hl 0 rfl) ?_
  refine lv_dadd hx hb dM_splitProtein_45 (hok.2.2) ?_
  refine ct_dast (k := 7) (w1 := (wM ad cA (vf_upd (vf_upd a 8 (FP.dsub (a 8) (FP.dmul (a 8) (ac 3)))) 7 (FP.dadd (a 7) (FP.dmul (a 8) (ac 3)))) dv ib ac hs ht hc hn rv ra dc nw Tm Ac ts gt lt)) hx hb hK hP hD hS 1 0 rfl rfl (by unfold vp_in; decide) (rfl) (rfl) dM_splitProtein_46 (fun H locs hP hD hS => ?_)
  exact ct_vret hx hb hr hlocks hP hK hD hS dM_splitProtein_47

set_option maxHeartbeats 4000000 in
set_option maxRecDepth 100000 in
/-- (8) -/
theorem cM_decayEnzymes (l : Launch) (dC : Nat → ClassId) (dI : Nat → Nat → Nat) (tt : Nat → Nat) (sz : Nat) (ad : Nat → Nat) (cA : Nat → ClassId) (a : Nat → UInt64) (dv : Nat → Nat → UInt64) (ib : Nat → Int32) (ac : Nat → UInt64) (hs : Nat → Int32) (ht : Nat → UInt64) (hc hn : Int32) (rv : Nat → UInt64) (ra : UInt64) (dc nw : Int32) (Tm Ac ts : UInt64) (gt lt : Int32) (hok : ok8 a rv) : Ct l dC dI tt yM_decayEnzymes bM_decayEnzymes 4 none ({ frames := 1, cells := 0, slots := 0, locals := 21 }) (tM cA) [.ref (ad 0)] (wM ad cA a dv ib ac hs ht hc hn rv ra dc nw Tm Ac ts gt lt) sz (fun A => ctQv dC dI (tM cA) (wM ad cA (s8 a rv 4) dv ib ac hs ht hc hn rv ra dc nw Tm Ac ts gt lt) A) := by
  refine ct_of (by decide) (Nat.le_of_ble_eq_true rfl) ?_
  intro p e s m below meth c A ls hx hb hr hts hown hml hlocks hnm hA hS hP hK hD hT hl
  have hl : lv_has ls 4 [(0, .ref (ad 0))] := hl
  have key : ∀ (n i : Nat) (ls : Array Slot) (H : Heap) (locs : List Loc), n + i = 4 → va_P (dC, dI) cls (wM ad cA (s8 a rv i) dv ib ac hs ht hc hn rv ra dc nw Tm Ac ts gt lt) H → va_D A (wM ad cA (s8 a rv i) dv ib ac hs ht hc hn rv ra dc nw Tm Ac ts gt lt) → va_S A s.heap H locs → lv_has ls 4 [(1, .int (nI i)), (0, .ref (ad 0))] → W p l e ({ frames := 1, cells := 0, slots := 0, locals := 21 } : Room) s m ([.ref (ad 0)] : List Value).toArray below meth c H locs 0 0 (MQ below (ctQv dC dI (tM cA) (wM ad cA (s8 a rv 4) dv ib ac hs ht hc hn rv ra dc nw Tm Ac ts gt lt) A) ([.ref (ad 0)] : List Value).toArray s 0 0 A) (F0 m 2 ls []) := by
    intro n
    induction n with
    | zero =>
      intro i ls H locs hni hP hD hS hl
      refine lv_iload_n hx hb dM_decayEnzymes_2 rfl (lv_at hl 0 rfl) ?_
      refine lv_iconst (v := 4) hx hb dM_decayEnzymes_3 (by decide) ?_
      refine lv_icmp_ge (tgt := 44) hx hb dM_decayEnzymes_4 (by decide) (fun c_1 => ?_) (fun c_1 => ?_)
      · have hi : i = 4 := by omega
        subst hi
        exact ct_vret hx hb hr hlocks hP hK hD hS dM_decayEnzymes_44
      · exact absurd (nI_le (a := 4) (b := i) (by omega) (by omega)) c_1
    | succ n ih =>
      intro i ls H locs hni hP hD hS hl
      refine lv_iload_n hx hb dM_decayEnzymes_2 rfl (lv_at hl 0 rfl) ?_
      refine lv_iconst (v := 4) hx hb dM_decayEnzymes_3 (by decide) ?_
      refine lv_icmp_ge (tgt := 44) hx hb dM_decayEnzymes_4 (by decide) (fun c_2 => ?_) (fun c_2 => ?_)
      · exact absurd ((nI_leI (a := 4) (b := i) (by decide) (by omega)).mp c_2) (by omega)
      · have hi : i < 4 := by omega
        refine lv_aload_n hx hb dM_decayEnzymes_7 rfl (lv_at hl 1 rfl) ?_
        refine va_get (D := (dC, dI)) (ci := 0) (v := .ref (ad 1)) (C := "MashEnzymes") (T := F_M) (N := 13) hx hb hts in_M hown hK hP 0 rfl rfl 0 (by decide) (hts _ tw_f_M_9) (fun _ h9 => h9) rfl dM_decayEnzymes_8 ?_
        refine lv_bipush (v := 9) hx hb dM_decayEnzymes_11 (by decide) ?_
        refine lv_iload_n hx hb dM_decayEnzymes_13 rfl (lv_at hl 0 rfl) ?_
        refine lv_iadd hx hb dM_decayEnzymes_14 ?_
        refine ct_topi (y := nI (9 + i)) (by rw [show (9 : Int32) = nI 9 from rfl, nI_add]) ?_
        refine ct_dald (k := (9 + i)) (v := a (9 + i)) hx hb hK hP 1 0 rfl rfl (vp_in_nI (by omega) (by decide)) (nI_clamp (by omega)) (s8_at a rv i) dM_decayEnzymes_15 ?_
        refine lv_dstore_n (lv' := [(2, .double (a (9 + i))), (1, .int (nI i)), (0, .ref (ad 0))]) hx hb dM_decayEnzymes_16 rfl hl (by decide) rfl (fun ls hl => ?_)
        refine lv_aload_n hx hb dM_decayEnzymes_17 rfl (lv_at hl 2 rfl) ?_
        refine va_get (D := (dC, dI)) (ci := 0) (v := .ref (ad 1)) (C := "MashEnzymes") (T := F_M) (N := 13) hx hb hts in_M hown hK hP 0 rfl rfl 0 (by decide) (hts _ tw_f_M_9) (fun _ h9 => h9) rfl dM_decayEnzymes_18 ?_
        refine lv_bipush (v := 9) hx hb dM_decayEnzymes_21 (by decide) ?_
        refine lv_iload_n hx hb dM_decayEnzymes_23 rfl (lv_at hl 1 rfl) ?_
        refine lv_iadd hx hb dM_decayEnzymes_24 ?_
        refine ct_topi (y := nI (9 + i)) (by rw [show (9 : Int32) = nI 9 from rfl, nI_add]) ?_
        refine lv_dload_n hx hb dM_decayEnzymes_25 rfl (lv_at hl 0 rfl) ?_
        refine lv_dload_n hx hb dM_decayEnzymes_26 rfl (lv_at hl 0 rfl) ?_
        refine lv_aload_n hx hb dM_decayEnzymes_27 rfl (lv_at hl 2 rfl) ?_
        refine va_get (D := (dC, dI)) (ci := 0) (v := .ref (ad 8)) (C := "MashEnzymes") (T := F_M) (N := 13) hx hb hts in_M hown hK hP 0 rfl rfl 5 (by decide) (hts _ tw_f_M_35) (fun _ h9 => h9) rfl dM_decayEnzymes_28 ?_
        refine lv_iload_n hx hb dM_decayEnzymes_31 rfl (lv_at hl 1 rfl) ?_
        refine ct_cvd (As := [.int (nI i)]) (rest := [.double (a (9 + i)), .double (a (9 + i)), .int (nI (9 + i)), .ref (ad 1)]) (wr := [((ad 0), .inr (0, [.ref (ad 1), .ref (ad 2), .ref (ad 3), .ref (ad 4), .ref (ad 5), .ref (ad 8), .int dc, .int nw, .double Tm, .double Ac, .double ts, .int gt, .int lt])), ((ad 1), .inl (cA 0, 13, .inr (.inr (.inr (.inl (s8 a rv i)))))), ((ad 2), .inl (cA 1, 8, .inr (.inr (.inr (.inr (fun i => if i < 8 then some (ad (i + 10)) else none)))))), ((ad 3), .inl (cA 2, 8, .inl ib)), ((ad 4), .inl (cA 3, 4, .inr (.inr (.inr (.inl ac))))), ((ad 5), .inr (1, [.ref (ad 6), .ref (ad 7), .int hc, .int hn])), ((ad 6), .inl (cA 4, 32, .inl hs)), ((ad 7), .inl (cA 5, 32, .inr (.inr (.inr (.inl ht))))), ((ad 10), .inl (cA 7, 13, .inr (.inr (.inr (.inl (dv 0)))))), ((ad 11), .inl (cA 7, 13, .inr (.inr (.inr (.inl (dv 1)))))), ((ad 12), .inl (cA 7, 13, .inr (.inr (.inr (.inl (dv 2)))))), ((ad 13), .inl (cA 7, 13, .inr (.inr (.inr (.inl (dv 3)))))), ((ad 14), .inl (cA 7, 13, .inr (.inr (.inr (.inl (dv 4)))))), ((ad 15), .inl (cA 7, 13, .inr (.inr (.inr (.inl (dv 5)))))), ((ad 16), .inl (cA 7, 13, .inr (.inr (.inr (.inl (dv 6)))))), ((ad 17), .inl (cA 7, 13, .inr (.inr (.inr (.inl (dv 7))))))]) (w1 := (wQ (ad 8) (ad 9) (cA 6) rv ra)) ⟨hx, hb, hml, hown, hts⟩ (cQ_decay l dC dI tt _ (ad 8) (ad 9) (cA 6) rv ra i hi) (gT_V tw_m_M_170 tw_i_yQ_decay tw_s_yQ_decay tw_I_Q tw_c_yQ_decay) ⟨rfl, by decide +kernel, by decide +kernel, (by decide +kernel : (parseMethodDescriptor yQ_decay.desc).map (fun d => d.parameters.length) = some 1)⟩ ⟨by decide, by decide⟩ (ci := 2) rfl rfl rfl hP hD hK hS hA hT [8, 9] [0, 1, 2, 3, 4, 5, 6, 7, 10, 11, 12, 13, 14, 15, 16, 17] [6] (by decide) rfl rfl (by decide) (by decide) rfl hl.1 rfl (Nat.le_of_ble_eq_true rfl) dM_decayEnzymes_32 ⟨by decide, by decide⟩ (fun H locs hP hD hS => ?_)
        have hP := hP.sub (ws' := (wM ad cA (s8 a rv i) dv ib ac hs ht hc hn rv ra dc nw Tm Ac ts gt lt)) [0, 1, 2, 3, 4, 5, 6, 7, 16, 17, 8, 9, 10, 11, 12, 13, 14, 15] rfl
        have hD := hD.sub (ws' := (wM ad cA (s8 a rv i) dv ib ac hs ht hc hn rv ra dc nw Tm Ac ts gt lt)) [0, 1, 2, 3, 4, 5, 6, 7, 16, 17, 8, 9, 10, 11, 12, 13, 14, 15] (by decide) rfl
        refine lv_dmul hx hb dM_decayEnzymes_35 ((hok i hi).1) ?_
        refine lv_dsub hx hb dM_decayEnzymes_36 ((hok i hi).2) ?_
        refine ct_dast (k := (9 + i)) (w1 := (wM ad cA (s8 a rv (i + 1)) dv ib ac hs ht hc hn rv ra dc nw Tm Ac ts gt lt)) hx hb hK hP hD hS 1 0 rfl rfl (vp_in_nI (by omega) (by decide)) (nI_clamp (by omega)) (by rw [← s8_s]; rfl) dM_decayEnzymes_37 (fun H locs hP hD hS => ?_)
        refine lv_iinc (v := (nI (i + 1))) (lv' := [(1, .int (nI (i + 1))), (2, .double (a (9 + i))), (0, .ref (ad 0))]) hx hb dM_decayEnzymes_38 hl (k := 1) rfl (nI_1 i) (by decide) rfl (fun ls hl => ?_)
        refine lv_goto (tgt := 2) hx hb dM_decayEnzymes_41 (by decide) ?_
        exact ih (i + 1) ls H locs (by omega) hP hD hS (lv_sub hl [0, 2] rfl)
  refine lv_iconst (v := 0) hx hb dM_decayEnzymes_0 (by decide) ?_
  refine ct_topi (y := nI 0) (rfl) ?_
  refine lv_istore_n (lv' := [(1, .int (nI 0)), (0, .ref (ad 0))]) hx hb dM_decayEnzymes_1 rfl hl (by decide) rfl (fun ls hl => ?_)
  rw [← s8_0 a rv] at hP hD
  exact key 4 0 ls _ _ rfl hP hD hS (lv_sub hl [0, 1] rfl)

set_option maxHeartbeats 4000000 in
set_option maxRecDepth 100000 in
/-- (2) -/
theorem cM_reckonActions (l : Launch) (dC : Nat → ClassId) (dI : Nat → Nat → Nat) (tt : Nat → Nat) (sz : Nat) (ad : Nat → Nat) (cA : Nat → ClassId) (a : Nat → UInt64) (dv : Nat → Nat → UInt64) (ib : Nat → Int32) (ac : Nat → UInt64) (hs : Nat → Int32) (ht : Nat → UInt64) (hc hn : Int32) (rv : Nat → UInt64) (ra : UInt64) (dc nw : Int32) (Tm Ac ts : UInt64) (gt lt : Int32) (hAc : ft_P Ac) (hok : okA a rv Ac) : Ct l dC dI tt yM_reckonActions bM_reckonActions 8 none ({ frames := 1, cells := 0, slots := 0, locals := 22 }) (tM cA) [.ref (ad 0)] (wM ad cA a dv ib ac hs ht hc hn rv ra dc nw Tm Ac ts gt lt) sz (fun A => ctQv dC dI (tM cA) (wM ad cA a dv ib (actA a rv Ac 4 ac) hs ht hc hn rv ra dc nw Tm Ac ts gt lt) A) := by
  refine ct_of (by decide) (Nat.le_of_ble_eq_true rfl) ?_
  intro p e s m below meth c A ls hx hb hr hts hown hml hlocks hnm hA hS hP hK hD hT hl
  have hl : lv_has ls 8 [(0, .ref (ad 0))] := hl
  have key : ∀ (n i : Nat) (ls : Array Slot) (H : Heap) (locs : List Loc), n + i = 4 → va_P (dC, dI) cls (wM ad cA a dv ib (actA a rv Ac i ac) hs ht hc hn rv ra dc nw Tm Ac ts gt lt) H → va_D A (wM ad cA a dv ib (actA a rv Ac i ac) hs ht hc hn rv ra dc nw Tm Ac ts gt lt) → va_S A s.heap H locs → lv_has ls 8 [(5, .int (nI i)), (3, .double (a 0)), (1, .double (fitA Ac)), (0, .ref (ad 0))] → W p l e ({ frames := 1, cells := 0, slots := 0, locals := 22 } : Room) s m ([.ref (ad 0)] : List Value).toArray below meth c H locs 0 0 (MQ below (ctQv dC dI (tM cA) (wM ad cA a dv ib (actA a rv Ac 4 ac) hs ht hc hn rv ra dc nw Tm Ac ts gt lt) A) ([.ref (ad 0)] : List Value).toArray s 0 0 A) (F0 m 15 ls []) := by
    intro n
    induction n with
    | zero =>
      intro i ls H locs hni hP hD hS hl
      refine lv_iload hx hb dM_reckonActions_15 (lv_at hl 0 rfl) ?_
      refine lv_iconst (v := 4) hx hb dM_reckonActions_17 (by decide) ?_
      refine lv_icmp_ge (tgt := 80) hx hb dM_reckonActions_18 (by decide) (fun c_1 => ?_) (fun c_1 => ?_)
      · have hi : i = 4 := by omega
        subst hi
        exact ct_vret hx hb hr hlocks hP hK hD hS dM_reckonActions_80
      · exact absurd (nI_le (a := 4) (b := i) (by omega) (by omega)) c_1
    | succ n ih =>
      intro i ls H locs hni hP hD hS hl
      refine lv_iload hx hb dM_reckonActions_15 (lv_at hl 0 rfl) ?_
      refine lv_iconst (v := 4) hx hb dM_reckonActions_17 (by decide) ?_
      refine lv_icmp_ge (tgt := 80) hx hb dM_reckonActions_18 (by decide) (fun c_2 => ?_) (fun c_2 => ?_)
      · exact absurd ((nI_leI (a := 4) (b := i) (by decide) (by omega)).mp c_2) (by omega)
      · have hi : i < 4 := by omega
        refine lv_aload_n hx hb dM_reckonActions_21 rfl (lv_at hl 3 rfl) ?_
        refine va_get (D := (dC, dI)) (ci := 0) (v := .ref (ad 1)) (C := "MashEnzymes") (T := F_M) (N := 13) hx hb hts in_M hown hK hP 0 rfl rfl 0 (by decide) (hts _ tw_f_M_9) (fun _ h9 => h9) rfl dM_reckonActions_22 ?_
        refine lv_bipush (v := 9) hx hb dM_reckonActions_25 (by decide) ?_
        refine lv_iload hx hb dM_reckonActions_27 (lv_at hl 0 rfl) ?_
        refine lv_iadd hx hb dM_reckonActions_29 ?_
        refine ct_topi (y := nI (9 + i)) (by rw [show (9 : Int32) = nI 9 from rfl, nI_add]) ?_
        refine ct_dald (k := (9 + i)) (v := a (9 + i)) hx hb hK hP 1 0 rfl rfl (vp_in_nI (by omega) (by decide)) (nI_clamp (by omega)) (rfl) dM_reckonActions_30 ?_
        refine lv_aload_n hx hb dM_reckonActions_31 rfl (lv_at hl 3 rfl) ?_
        refine va_get (D := (dC, dI)) (ci := 0) (v := .ref (ad 8)) (C := "MashEnzymes") (T := F_M) (N := 13) hx hb hts in_M hown hK hP 0 rfl rfl 5 (by decide) (hts _ tw_f_M_35) (fun _ h9 => h9) rfl dM_reckonActions_32 ?_
        refine lv_iload hx hb dM_reckonActions_35 (lv_at hl 0 rfl) ?_
        refine ct_cvd (As := [.int (nI i)]) (rest := [.double (a (9 + i))]) (wr := [((ad 0), .inr (0, [.ref (ad 1), .ref (ad 2), .ref (ad 3), .ref (ad 4), .ref (ad 5), .ref (ad 8), .int dc, .int nw, .double Tm, .double Ac, .double ts, .int gt, .int lt])), ((ad 1), .inl (cA 0, 13, .inr (.inr (.inr (.inl a))))), ((ad 2), .inl (cA 1, 8, .inr (.inr (.inr (.inr (fun i => if i < 8 then some (ad (i + 10)) else none)))))), ((ad 3), .inl (cA 2, 8, .inl ib)), ((ad 4), .inl (cA 3, 4, .inr (.inr (.inr (.inl (actA a rv Ac i ac)))))), ((ad 5), .inr (1, [.ref (ad 6), .ref (ad 7), .int hc, .int hn])), ((ad 6), .inl (cA 4, 32, .inl hs)), ((ad 7), .inl (cA 5, 32, .inr (.inr (.inr (.inl ht))))), ((ad 10), .inl (cA 7, 13, .inr (.inr (.inr (.inl (dv 0)))))), ((ad 11), .inl (cA 7, 13, .inr (.inr (.inr (.inl (dv 1)))))), ((ad 12), .inl (cA 7, 13, .inr (.inr (.inr (.inl (dv 2)))))), ((ad 13), .inl (cA 7, 13, .inr (.inr (.inr (.inl (dv 3)))))), ((ad 14), .inl (cA 7, 13, .inr (.inr (.inr (.inl (dv 4)))))), ((ad 15), .inl (cA 7, 13, .inr (.inr (.inr (.inl (dv 5)))))), ((ad 16), .inl (cA 7, 13, .inr (.inr (.inr (.inl (dv 6)))))), ((ad 17), .inl (cA 7, 13, .inr (.inr (.inr (.inl (dv 7))))))]) (w1 := (wQ (ad 8) (ad 9) (cA 6) rv ra)) ⟨hx, hb, hml, hown, hts⟩ (cQ_rate l dC dI tt _ (ad 8) (ad 9) (cA 6) rv ra i hi) (gT_V tw_m_M_143 tw_i_yQ_rate tw_s_yQ_rate tw_I_Q tw_c_yQ_rate) ⟨rfl, by decide +kernel, by decide +kernel, (by decide +kernel : (parseMethodDescriptor yQ_rate.desc).map (fun d => d.parameters.length) = some 1)⟩ ⟨by decide, by decide⟩ (ci := 2) rfl rfl rfl hP hD hK hS hA hT [8, 9] [0, 1, 2, 3, 4, 5, 6, 7, 10, 11, 12, 13, 14, 15, 16, 17] [6] (by decide) rfl rfl (by decide) (by decide) rfl hl.1 rfl (Nat.le_of_ble_eq_true rfl) dM_reckonActions_37 ⟨by decide, by decide⟩ (fun H locs hP hD hS => ?_)
        have hP := hP.sub (ws' := (wM ad cA a dv ib (actA a rv Ac i ac) hs ht hc hn rv ra dc nw Tm Ac ts gt lt)) [0, 1, 2, 3, 4, 5, 6, 7, 16, 17, 8, 9, 10, 11, 12, 13, 14, 15] rfl
        have hD := hD.sub (ws' := (wM ad cA a dv ib (actA a rv Ac i ac) hs ht hc hn rv ra dc nw Tm Ac ts gt lt)) [0, 1, 2, 3, 4, 5, 6, 7, 16, 17, 8, 9, 10, 11, 12, 13, 14, 15] (by decide) rfl
        refine lv_dmul hx hb dM_reckonActions_40 ((hok i hi).1) ?_
        refine lv_dload_n hx hb dM_reckonActions_41 rfl (lv_at hl 2 rfl) ?_
        refine lv_dmul hx hb dM_reckonActions_42 ((hok i hi).2.1) ?_
        refine lv_dstore (lv' := [(6, .double (FP.dmul (FP.dmul (a (9 + i)) (rv i)) (fitA Ac))), (5, .int (nI i)), (3, .double (a 0)), (1, .double (fitA Ac)), (0, .ref (ad 0))]) hx hb dM_reckonActions_43 hl (by decide) rfl (fun ls hl => ?_)
        refine lv_aload_n hx hb dM_reckonActions_45 rfl (lv_at hl 4 rfl) ?_
        refine va_get (D := (dC, dI)) (ci := 0) (v := .ref (ad 4)) (C := "MashEnzymes") (T := F_M) (N := 13) hx hb hts in_M hown hK hP 0 rfl rfl 3 (by decide) (hts _ tw_f_M_22) (fun _ h9 => h9) rfl dM_reckonActions_46 ?_
        refine lv_iload hx hb dM_reckonActions_49 (lv_at hl 1 rfl) ?_
        refine lv_dload hx hb dM_reckonActions_51 (lv_at hl 0 rfl) ?_
        refine lv_dconst0 hx hb dM_reckonActions_53 ?_
        refine ct_topd (y := 0) rfl ?_
        refine lv_dcmp hx hb dM_reckonActions_54 ?_
        refine lv_if_le (tgt := 72) hx hb dM_reckonActions_55 (by decide) (fun c_3 => ?_) (fun c_3 => ?_)
        · have hg : ¬ FP.dcmp (FP.dmul (FP.dmul (a (9 + i)) (rv i)) (fitA Ac)) 0 = some .gt := (cv_l_le _).mp c_3
          have hE : actE a rv Ac i = 0 := by unfold actE actX; exact if_neg hg
          refine lv_dconst0 hx hb dM_reckonActions_72 ?_
          refine ct_topd (y := 0) rfl ?_
          refine ct_dast (k := i) (w1 := (wM ad cA a dv ib (actA a rv Ac (i + 1) ac) hs ht hc hn rv ra dc nw Tm Ac ts gt lt)) hx hb hK hP hD hS 4 3 rfl rfl (vp_in_nI (by omega) (by decide)) (nI_clamp (by omega)) (by rw [← actA_s, hE]; rfl) dM_reckonActions_73 (fun H locs hP hD hS => ?_)
          refine lv_iinc (v := (nI (i + 1))) (lv' := [(5, .int (nI (i + 1))), (6, .double (FP.dmul (FP.dmul (a (9 + i)) (rv i)) (fitA Ac))), (3, .double (a 0)), (1, .double (fitA Ac)), (0, .ref (ad 0))]) hx hb dM_reckonActions_74 hl (k := 1) rfl (nI_1 i) (by decide) rfl (fun ls hl => ?_)
          refine lv_goto (tgt := 15) hx hb dM_reckonActions_77 (by decide) ?_
          exact ih (i + 1) ls H locs (by omega) hP hD hS (lv_sub hl [0, 2, 3, 4] rfl)
        · have hg : FP.dcmp (FP.dmul (FP.dmul (a (9 + i)) (rv i)) (fitA Ac)) 0 = some .gt := Classical.not_not.mp fun h => c_3 ((cv_l_le _).mpr h)
          have hE : actE a rv Ac i = FP.dmul (FP.ddiv (FP.dmul (FP.dmul (a (9 + i)) (rv i)) (fitA Ac)) (FP.dadd (FP.dmul (FP.dmul (a (9 + i)) (rv i)) (fitA Ac)) (a 0))) 4589168020290535424 := by unfold actE actX; exact if_pos hg
          refine lv_dload hx hb dM_reckonActions_58 (lv_at hl 0 rfl) ?_
          refine lv_dload hx hb dM_reckonActions_60 (lv_at hl 0 rfl) ?_
          refine lv_dload_n hx hb dM_reckonActions_62 rfl (lv_at hl 2 rfl) ?_
          refine lv_dadd hx hb dM_reckonActions_63 (((hok i hi).2.2 hg).1) ?_
          refine lv_ddiv hx hb dM_reckonActions_64 (((hok i hi).2.2 hg).2.1) ?_
          refine lv_ldc2d hx hb hown (hts _ tw_d_M_147) dM_reckonActions_65 ?_
          refine lv_dmul hx hb dM_reckonActions_68 (((hok i hi).2.2 hg).2.2) ?_
          refine lv_goto (tgt := 73) hx hb dM_reckonActions_69 (by decide) ?_
          refine ct_dast (k := i) (w1 := (wM ad cA a dv ib (actA a rv Ac (i + 1) ac) hs ht hc hn rv ra dc nw Tm Ac ts gt lt)) hx hb hK hP hD hS 4 3 rfl rfl (vp_in_nI (by omega) (by decide)) (nI_clamp (by omega)) (by rw [← actA_s, hE]; rfl) dM_reckonActions_73 (fun H locs hP hD hS => ?_)
          refine lv_iinc (v := (nI (i + 1))) (lv' := [(5, .int (nI (i + 1))), (6, .double (FP.dmul (FP.dmul (a (9 + i)) (rv i)) (fitA Ac))), (3, .double (a 0)), (1, .double (fitA Ac)), (0, .ref (ad 0))]) hx hb dM_reckonActions_74 hl (k := 1) rfl (nI_1 i) (by decide) rfl (fun ls hl => ?_)
          refine lv_goto (tgt := 15) hx hb dM_reckonActions_77 (by decide) ?_
          exact ih (i + 1) ls H locs (by omega) hP hD hS (lv_sub hl [0, 2, 3, 4] rfl)
  refine lv_aload_n hx hb dM_reckonActions_0 rfl (lv_at hl 0 rfl) ?_
  refine ct_cvd (As := []) (rest := []) (wr := []) (w1 := (wM ad cA a dv ib ac hs ht hc hn rv ra dc nw Tm Ac ts gt lt)) ⟨hx, hb, hml, hown, hts⟩ (cM_acidityFitness l dC dI tt _ ad cA a dv ib ac hs ht hc hn rv ra dc nw Tm Ac ts gt lt hAc) (gT_V tw_m_M_140 tw_i_yM_acidityFitness tw_s_yM_acidityFitness tw_I_M tw_c_yM_acidityFitness) ⟨rfl, by decide +kernel, by decide +kernel, (by decide +kernel : (parseMethodDescriptor yM_acidityFitness.desc).map (fun d => d.parameters.length) = some 0)⟩ ⟨by decide, by decide⟩ (ci := 0) rfl rfl rfl hP hD hK hS hA hT [0, 1, 2, 3, 4, 5, 6, 7, 8, 9, 10, 11, 12, 13, 14, 15, 16, 17] [] [0, 1, 2, 3, 4, 5, 6, 7] (by decide) rfl rfl (by decide) (by decide) rfl hl.1 rfl (Nat.le_of_ble_eq_true rfl) dM_reckonActions_1 ⟨by decide, by decide⟩ (fun H locs hP hD hS => ?_)
  have hP : va_P (dC, dI) cls (wM ad cA a dv ib ac hs ht hc hn rv ra dc nw Tm Ac ts gt lt) H := hP
  have hD : va_D A (wM ad cA a dv ib ac hs ht hc hn rv ra dc nw Tm Ac ts gt lt) := hD
  refine lv_dstore_n (lv' := [(1, .double (fitA Ac)), (0, .ref (ad 0))]) hx hb dM_reckonActions_4 rfl hl (by decide) rfl (fun ls hl => ?_)
  refine lv_aload_n hx hb dM_reckonActions_5 rfl (lv_at hl 1 rfl) ?_
  refine va_get (D := (dC, dI)) (ci := 0) (v := .ref (ad 1)) (C := "MashEnzymes") (T := F_M) (N := 13) hx hb hts in_M hown hK hP 0 rfl rfl 0 (by decide) (hts _ tw_f_M_9) (fun _ h9 => h9) rfl dM_reckonActions_6 ?_
  refine lv_iconst (v := 0) hx hb dM_reckonActions_9 (by decide) ?_
  refine ct_dald (k := 0) (v := a 0) hx hb hK hP 1 0 rfl rfl (by unfold vp_in; decide) (rfl) (rfl) dM_reckonActions_10 ?_
  refine lv_dstore_n (lv' := [(3, .double (a 0)), (1, .double (fitA Ac)), (0, .ref (ad 0))]) hx hb dM_reckonActions_11 rfl hl (by decide) rfl (fun ls hl => ?_)
  refine lv_iconst (v := 0) hx hb dM_reckonActions_12 (by decide) ?_
  refine ct_topi (y := nI 0) (rfl) ?_
  refine lv_istore (lv' := [(5, .int (nI 0)), (3, .double (a 0)), (1, .double (fitA Ac)), (0, .ref (ad 0))]) hx hb dM_reckonActions_13 hl (by decide) rfl (fun ls hl => ?_)
  rw [← actA_0 a rv Ac ac] at hP hD
  exact key 4 0 ls _ _ rfl hP hD hS (lv_sub hl [0, 1, 2, 3] rfl)
end
section
/-! a second, and so many seconds: a state is amounts, actions, the next step, the rows, their temperature, now, T -/
abbrev SS : Type := (Nat → UInt64) × (Nat → UInt64) × Nat × (Nat → UInt64) × UInt64 × Int32 × UInt64
def scK (hs : Nat → Int32) (c0 : Nat) (u : SS) : Nat := fst hs u.2.2.2.2.2.1 c0 u.2.2.1
def scT (hs : Nat → Int32) (ht : Nat → UInt64) (c0 : Nat) (u : SS) : UInt64 := heatT hs ht c0 (scK hs c0 u) u.2.2.2.2.2.1 u.2.2.2.2.2.2
def scR (hs : Nat → Int32) (ht : Nat → UInt64) (c0 : Nat) (u : SS) : Nat → UInt64 := rwA (scT hs ht c0 u) 9 u.2.2.2.1
def scC (hs : Nat → Int32) (ht : Nat → UInt64) (c0 : Nat) (A : UInt64) (u : SS) : Nat → UInt64 := actA u.1 (scR hs ht c0 u) A 4 u.2.1
/-- (3) to (7) over given rows and actions -/
def sq3 (a R : Nat → UInt64) : Nat → UInt64 := s3 a R
def sq4 (a R C : Nat → UInt64) : Nat → UInt64 := s4 (sq3 a R) C
def sq5 (a R C : Nat → UInt64) : Nat → UInt64 := s5 (sq4 a R C) C
def sq6 (a R C : Nat → UInt64) : Nat → UInt64 := s6 (sq5 a R C) C
def sq7 (a R C : Nat → UInt64) : Nat → UInt64 := s7 (sq6 a R C) C
def sq8 (a R C : Nat → UInt64) : Nat → UInt64 := s8 (sq7 a R C) R 4
def secS (hs : Nat → Int32) (ht : Nat → UInt64) (c0 : Nat) (A : UInt64) (u : SS) : SS := (sq8 u.1 (scR hs ht c0 u) (scC hs ht c0 A u), scC hs ht c0 A u, scK hs c0 u, scR hs ht c0 u, scT hs ht c0 u, u.2.2.2.2.2.1 + 1, scT hs ht c0 u)
def okQ (a R C : Nat → UInt64) (A : UInt64) : Prop := okA a R A ∧ ok3 a R ∧ ok4 (sq3 a R) C ∧ ok5 (sq4 a R C) C ∧ ok6 (sq5 a R C) C ∧ ok7 (sq6 a R C) C ∧ ok8 (sq7 a R C) R
def okH (hs : Nat → Int32) (ht : Nat → UInt64) (k : Nat) (nw : Int32) (T : UInt64) : Prop := vf_n64 (FP.dsub (ht k) T) ∧ vf_n64 (FP.ddiv (FP.dsub (ht k) T) (FP.i2d (hs k - nw))) ∧ vf_n64 (FP.dadd T (FP.ddiv (FP.dsub (ht k) T) (FP.i2d (hs k - nw))))
def okS (hs : Nat → Int32) (ht : Nat → UInt64) (c0 : Nat) (A : UInt64) (u : SS) : Prop := u.2.2.1 ≤ c0 ∧ (scK hs c0 u < c0 → okH hs ht (scK hs c0 u) u.2.2.2.2.2.1 u.2.2.2.2.2.2) ∧ ft_P u.2.2.2.2.1 ∧ ft_P (scT hs ht c0 u) ∧ (∀ k, k < 9 → u.2.2.2.1 k = rwv u.2.2.2.2.1 k (mk u.2.2.2.2.1)) ∧ okQ u.1 (scR hs ht c0 u) (scC hs ht c0 A u) A
def itS (hs : Nat → Int32) (ht : Nat → UInt64) (c0 : Nat) (A : UInt64) : Nat → SS → SS
  | 0, u => u
  | n + 1, u => secS hs ht c0 A (itS hs ht c0 A n u)
/-- the mash's cells with such a state -/
abbrev wS (ad : Nat → Nat) (cA : Nat → ClassId) (dv : Nat → Nat → UInt64) (ib : Nat → Int32) (hs : Nat → Int32) (ht : Nat → UInt64) (c0 : Nat) (dc : Int32) (Ac ts : UInt64) (gt lt : Int32) (u : SS) : va_W := wM ad cA u.1 dv ib u.2.1 hs ht (nI c0) (nI u.2.2.1) u.2.2.2.1 u.2.2.2.2.1 dc u.2.2.2.2.2.1 u.2.2.2.2.2.2 Ac ts gt lt
set_option maxHeartbeats 4000000 in
set_option maxRecDepth 100000 in
/-- a second -/
theorem cM_passSecond (l : Launch) (dC : Nat → ClassId) (dI : Nat → Nat → Nat) (tt : Nat → Nat) (sz : Nat) (ad : Nat → Nat) (cA : Nat → ClassId) (dv : Nat → Nat → UInt64) (ib : Nat → Int32) (hs : Nat → Int32) (ht : Nat → UInt64) (c0 : Nat) (dc : Int32) (Ac ts : UInt64) (gt lt : Int32) (u : SS) (hc32 : c0 ≤ 32) (hAc : ft_P Ac) (hok : okS hs ht c0 Ac u) : Ct l dC dI tt yM_passSecond bM_passSecond 1 none ({ frames := 5, cells := 0, slots := 0, locals := 115 }) (tM cA) [.ref (ad 0)] (wM ad cA u.1 dv ib u.2.1 hs ht (nI c0) (nI u.2.2.1) u.2.2.2.1 u.2.2.2.2.1 dc u.2.2.2.2.2.1 u.2.2.2.2.2.2 Ac ts gt lt) sz (fun A => ctQv dC dI (tM cA) (wS ad cA dv ib hs ht c0 dc Ac ts gt lt (secS hs ht c0 Ac u)) A) := by
  refine ct_of (by decide) (Nat.le_of_ble_eq_true rfl) ?_
  intro p e s m below meth c A ls hx hb hr hts hown hml hlocks hnm hA hS hP hK hD hT hl
  have hl : lv_has ls 1 [(0, .ref (ad 0))] := hl
  refine lv_aload_n hx hb dM_passSecond_0 rfl (lv_at hl 0 rfl) ?_
  refine lv_aload_n hx hb dM_passSecond_1 rfl (lv_at hl 0 rfl) ?_
  refine va_get (D := (dC, dI)) (ci := 0) (v := .ref (ad 5)) (C := "MashEnzymes") (T := F_M) (N := 13) hx hb hts in_M hown hK hP 0 rfl rfl 4 (by decide) (hts _ tw_f_M_28) (fun _ h9 => h9) rfl dM_passSecond_2 ?_
  refine lv_aload_n hx hb dM_passSecond_5 rfl (lv_at hl 0 rfl) ?_
  refine va_get (D := (dC, dI)) (ci := 0) (v := .double u.2.2.2.2.2.2) (C := "MashEnzymes") (T := F_M) (N := 13) hx hb hts in_M hown hK hP 0 rfl rfl 8 (by decide) (hts _ tw_f_M_68) (fun _ h9 => h9) rfl dM_passSecond_6 ?_
  refine lv_aload_n hx hb dM_passSecond_9 rfl (lv_at hl 0 rfl) ?_
  refine va_get (D := (dC, dI)) (ci := 0) (v := .int u.2.2.2.2.2.1) (C := "MashEnzymes") (T := F_M) (N := 13) hx hb hts in_M hown hK hP 0 rfl rfl 7 (by decide) (hts _ tw_f_M_81) (fun _ h9 => h9) rfl dM_passSecond_10 ?_
  refine ct_cvd (As := [.double u.2.2.2.2.2.2, .int u.2.2.2.2.2.1]) (rest := [.ref (ad 0)]) (wr := [((ad 0), .inr (0, [.ref (ad 1), .ref (ad 2), .ref (ad 3), .ref (ad 4), .ref (ad 5), .ref (ad 8), .int dc, .int u.2.2.2.2.2.1, .double u.2.2.2.2.2.2, .double Ac, .double ts, .int gt, .int lt])), ((ad 1), .inl (cA 0, 13, .inr (.inr (.inr (.inl u.1))))), ((ad 2), .inl (cA 1, 8, .inr (.inr (.inr (.inr (fun i => if i < 8 then some (ad (i + 10)) else none)))))), ((ad 3), .inl (cA 2, 8, .inl ib)), ((ad 4), .inl (cA 3, 4, .inr (.inr (.inr (.inl u.2.1))))), ((ad 8), .inr (2, [.ref (ad 9), .double u.2.2.2.2.1])), ((ad 9), .inl (cA 6, 9, .inr (.inr (.inr (.inl u.2.2.2.1))))), ((ad 10), .inl (cA 7, 13, .inr (.inr (.inr (.inl (dv 0)))))), ((ad 11), .inl (cA 7, 13, .inr (.inr (.inr (.inl (dv 1)))))), ((ad 12), .inl (cA 7, 13, .inr (.inr (.inr (.inl (dv 2)))))), ((ad 13), .inl (cA 7, 13, .inr (.inr (.inr (.inl (dv 3)))))), ((ad 14), .inl (cA 7, 13, .inr (.inr (.inr (.inl (dv 4)))))), ((ad 15), .inl (cA 7, 13, .inr (.inr (.inr (.inl (dv 5)))))), ((ad 16), .inl (cA 7, 13, .inr (.inr (.inr (.inl (dv 6)))))), ((ad 17), .inl (cA 7, 13, .inr (.inr (.inr (.inl (dv 7))))))]) (w1 := (wH (ad 5) (ad 6) (ad 7) (cA 4) (cA 5) hs ht (nI c0) (nI (scK hs c0 u)))) ⟨hx, hb, hml, hown, hts⟩ (cH_heated l dC dI tt _ (ad 5) (ad 6) (ad 7) (cA 4) (cA 5) hs ht c0 u.2.2.1 u.2.2.2.2.2.2 u.2.2.2.2.2.1 hc32 hok.1 hok.2.1) (gT_V tw_m_M_111 tw_i_yH_heated tw_s_yH_heated tw_I_H tw_c_yH_heated) ⟨rfl, by decide +kernel, by decide +kernel, (by decide +kernel : (parseMethodDescriptor yH_heated.desc).map (fun d => d.parameters.length) = some 2)⟩ ⟨by decide, by decide⟩ (ci := 1) rfl rfl rfl hP hD hK hS hA hT [5, 6, 7] [0, 1, 2, 3, 4, 8, 9, 10, 11, 12, 13, 14, 15, 16, 17] [4, 5] (by decide) rfl rfl (by decide) (by decide) rfl hl.1 rfl (Nat.le_of_ble_eq_true rfl) dM_passSecond_13 ⟨by decide, by decide⟩ (fun H locs hP hD hS => ?_)
  have hP := hP.sub (ws' := (wM ad cA u.1 dv ib u.2.1 hs ht (nI c0) (nI (scK hs c0 u)) u.2.2.2.1 u.2.2.2.2.1 dc u.2.2.2.2.2.1 u.2.2.2.2.2.2 Ac ts gt lt)) [0, 1, 2, 3, 4, 15, 16, 17, 5, 6, 7, 8, 9, 10, 11, 12, 13, 14] rfl
  have hD := hD.sub (ws' := (wM ad cA u.1 dv ib u.2.1 hs ht (nI c0) (nI (scK hs c0 u)) u.2.2.2.1 u.2.2.2.2.1 dc u.2.2.2.2.2.1 u.2.2.2.2.2.2 Ac ts gt lt)) [0, 1, 2, 3, 4, 15, 16, 17, 5, 6, 7, 8, 9, 10, 11, 12, 13, 14] (by decide) rfl
  refine va_put (D := (dC, dI)) (ci := 0) (v := .double (scT hs ht c0 u)) (ty := .double) (C := "MashEnzymes") (T := F_M) (N := 13) hx hb hts in_M t_M t_M_ok n_M hown hK hP hD hS 0 rfl rfl 8 (by decide) (hts _ tw_f_M_68) (fun _ h9 => h9) rfl (by decide +kernel) rfl rfl (Nat.le_of_ble_eq_true rfl) dM_passSecond_16 (fun H locs hP hD hS => ?_)
  have hP : va_P (dC, dI) cls (wM ad cA u.1 dv ib u.2.1 hs ht (nI c0) (nI (scK hs c0 u)) u.2.2.2.1 u.2.2.2.2.1 dc u.2.2.2.2.2.1 (scT hs ht c0 u) Ac ts gt lt) H := hP
  have hD : va_D A (wM ad cA u.1 dv ib u.2.1 hs ht (nI c0) (nI (scK hs c0 u)) u.2.2.2.1 u.2.2.2.2.1 dc u.2.2.2.2.2.1 (scT hs ht c0 u) Ac ts gt lt) := hD
  refine lv_aload_n hx hb dM_passSecond_19 rfl (lv_at hl 0 rfl) ?_
  refine va_get (D := (dC, dI)) (ci := 0) (v := .ref (ad 8)) (C := "MashEnzymes") (T := F_M) (N := 13) hx hb hts in_M hown hK hP 0 rfl rfl 5 (by decide) (hts _ tw_f_M_35) (fun _ h9 => h9) rfl dM_passSecond_20 ?_
  refine lv_aload_n hx hb dM_passSecond_23 rfl (lv_at hl 0 rfl) ?_
  refine va_get (D := (dC, dI)) (ci := 0) (v := .double (scT hs ht c0 u)) (C := "MashEnzymes") (T := F_M) (N := 13) hx hb hts in_M hown hK hP 0 rfl rfl 8 (by decide) (hts _ tw_f_M_68) (fun _ h9 => h9) rfl dM_passSecond_24 ?_
  refine ct_cvv (As := [.double (scT hs ht c0 u)]) (rest := []) (wr := [((ad 0), .inr (0, [.ref (ad 1), .ref (ad 2), .ref (ad 3), .ref (ad 4), .ref (ad 5), .ref (ad 8), .int dc, .int u.2.2.2.2.2.1, .double (scT hs ht c0 u), .double Ac, .double ts, .int gt, .int lt])), ((ad 1), .inl (cA 0, 13, .inr (.inr (.inr (.inl u.1))))), ((ad 2), .inl (cA 1, 8, .inr (.inr (.inr (.inr (fun i => if i < 8 then some (ad (i + 10)) else none)))))), ((ad 3), .inl (cA 2, 8, .inl ib)), ((ad 4), .inl (cA 3, 4, .inr (.inr (.inr (.inl u.2.1))))), ((ad 5), .inr (1, [.ref (ad 6), .ref (ad 7), .int (nI c0), .int (nI (scK hs c0 u))])), ((ad 6), .inl (cA 4, 32, .inl hs)), ((ad 7), .inl (cA 5, 32, .inr (.inr (.inr (.inl ht))))), ((ad 10), .inl (cA 7, 13, .inr (.inr (.inr (.inl (dv 0)))))), ((ad 11), .inl (cA 7, 13, .inr (.inr (.inr (.inl (dv 1)))))), ((ad 12), .inl (cA 7, 13, .inr (.inr (.inr (.inl (dv 2)))))), ((ad 13), .inl (cA 7, 13, .inr (.inr (.inr (.inl (dv 3)))))), ((ad 14), .inl (cA 7, 13, .inr (.inr (.inr (.inl (dv 4)))))), ((ad 15), .inl (cA 7, 13, .inr (.inr (.inr (.inl (dv 5)))))), ((ad 16), .inl (cA 7, 13, .inr (.inr (.inr (.inl (dv 6)))))), ((ad 17), .inl (cA 7, 13, .inr (.inr (.inr (.inl (dv 7))))))]) (w1 := (wQ (ad 8) (ad 9) (cA 6) (scR hs ht c0 u) (scT hs ht c0 u))) ⟨hx, hb, hml, hown, hts⟩ (cQ_moveTo l dC dI tt _ (ad 8) (ad 9) (cA 6) u.2.2.2.1 u.2.2.2.2.1 (scT hs ht c0 u) hok.2.2.1 hok.2.2.2.1 hok.2.2.2.2.1) (gT_V tw_m_M_115 tw_i_yQ_moveTo tw_s_yQ_moveTo tw_I_Q tw_c_yQ_moveTo) ⟨rfl, by decide +kernel, by decide +kernel, (by decide +kernel : (parseMethodDescriptor yQ_moveTo.desc).map (fun d => d.parameters.length) = some 1)⟩ ⟨by decide, by decide⟩ (ci := 2) rfl rfl rfl hP hD hK hS hA hT [8, 9] [0, 1, 2, 3, 4, 5, 6, 7, 10, 11, 12, 13, 14, 15, 16, 17] [6] (by decide) rfl rfl (by decide) (by decide) rfl hl.1 rfl (Nat.le_of_ble_eq_true rfl) dM_passSecond_27 ⟨by decide, by decide⟩ (fun H locs hP hD hS => ?_)
  have hP := hP.sub (ws' := (wM ad cA u.1 dv ib u.2.1 hs ht (nI c0) (nI (scK hs c0 u)) (scR hs ht c0 u) (scT hs ht c0 u) dc u.2.2.2.2.2.1 (scT hs ht c0 u) Ac ts gt lt)) [0, 1, 2, 3, 4, 5, 6, 7, 16, 17, 8, 9, 10, 11, 12, 13, 14, 15] rfl
  have hD := hD.sub (ws' := (wM ad cA u.1 dv ib u.2.1 hs ht (nI c0) (nI (scK hs c0 u)) (scR hs ht c0 u) (scT hs ht c0 u) dc u.2.2.2.2.2.1 (scT hs ht c0 u) Ac ts gt lt)) [0, 1, 2, 3, 4, 5, 6, 7, 16, 17, 8, 9, 10, 11, 12, 13, 14, 15] (by decide) rfl
  refine lv_aload_n hx hb dM_passSecond_30 rfl (lv_at hl 0 rfl) ?_
  refine ct_cvv (As := []) (rest := []) (wr := []) (w1 := (wM ad cA u.1 dv ib (scC hs ht c0 Ac u) hs ht (nI c0) (nI (scK hs c0 u)) (scR hs ht c0 u) (scT hs ht c0 u) dc u.2.2.2.2.2.1 (scT hs ht c0 u) Ac ts gt lt)) ⟨hx, hb, hml, hown, hts⟩ (cM_reckonActions l dC dI tt _ ad cA u.1 dv ib u.2.1 hs ht (nI c0) (nI (scK hs c0 u)) (scR hs ht c0 u) (scT hs ht c0 u) dc u.2.2.2.2.2.1 (scT hs ht c0 u) Ac ts gt lt hAc hok.2.2.2.2.2.1) (gT_V tw_m_M_119 tw_i_yM_reckonActions tw_s_yM_reckonActions tw_I_M tw_c_yM_reckonActions) ⟨rfl, by decide +kernel, by decide +kernel, (by decide +kernel : (parseMethodDescriptor yM_reckonActions.desc).map (fun d => d.parameters.length) = some 0)⟩ ⟨by decide, by decide⟩ (ci := 0) rfl rfl rfl hP hD hK hS hA hT [0, 1, 2, 3, 4, 5, 6, 7, 8, 9, 10, 11, 12, 13, 14, 15, 16, 17] [] [0, 1, 2, 3, 4, 5, 6, 7] (by decide) rfl rfl (by decide) (by decide) rfl hl.1 rfl (Nat.le_of_ble_eq_true rfl) dM_passSecond_31 ⟨by decide, by decide⟩ (fun H locs hP hD hS => ?_)
  have hP : va_P (dC, dI) cls (wM ad cA u.1 dv ib (scC hs ht c0 Ac u) hs ht (nI c0) (nI (scK hs c0 u)) (scR hs ht c0 u) (scT hs ht c0 u) dc u.2.2.2.2.2.1 (scT hs ht c0 u) Ac ts gt lt) H := hP
  have hD : va_D A (wM ad cA u.1 dv ib (scC hs ht c0 Ac u) hs ht (nI c0) (nI (scK hs c0 u)) (scR hs ht c0 u) (scT hs ht c0 u) dc u.2.2.2.2.2.1 (scT hs ht c0 u) Ac ts gt lt) := hD
  refine lv_aload_n hx hb dM_passSecond_34 rfl (lv_at hl 0 rfl) ?_
  refine ct_cvv (As := []) (rest := []) (wr := []) (w1 := (wM ad cA (sq3 u.1 (scR hs ht c0 u)) dv ib (scC hs ht c0 Ac u) hs ht (nI c0) (nI (scK hs c0 u)) (scR hs ht c0 u) (scT hs ht c0 u) dc u.2.2.2.2.2.1 (scT hs ht c0 u) Ac ts gt lt)) ⟨hx, hb, hml, hown, hts⟩ (cM_gelStarch l dC dI tt _ ad cA u.1 dv ib (scC hs ht c0 Ac u) hs ht (nI c0) (nI (scK hs c0 u)) (scR hs ht c0 u) (scT hs ht c0 u) dc u.2.2.2.2.2.1 (scT hs ht c0 u) Ac ts gt lt hok.2.2.2.2.2.2.1) (gT_V tw_m_M_122 tw_i_yM_gelStarch tw_s_yM_gelStarch tw_I_M tw_c_yM_gelStarch) ⟨rfl, by decide +kernel, by decide +kernel, (by decide +kernel : (parseMethodDescriptor yM_gelStarch.desc).map (fun d => d.parameters.length) = some 0)⟩ ⟨by decide, by decide⟩ (ci := 0) rfl rfl rfl hP hD hK hS hA hT [0, 1, 2, 3, 4, 5, 6, 7, 8, 9, 10, 11, 12, 13, 14, 15, 16, 17] [] [0, 1, 2, 3, 4, 5, 6, 7] (by decide) rfl rfl (by decide) (by decide) rfl hl.1 rfl (Nat.le_of_ble_eq_true rfl) dM_passSecond_35 ⟨by decide, by decide⟩ (fun H locs hP hD hS => ?_)
  have hP : va_P (dC, dI) cls (wM ad cA (sq3 u.1 (scR hs ht c0 u)) dv ib (scC hs ht c0 Ac u) hs ht (nI c0) (nI (scK hs c0 u)) (scR hs ht c0 u) (scT hs ht c0 u) dc u.2.2.2.2.2.1 (scT hs ht c0 u) Ac ts gt lt) H := hP
  have hD : va_D A (wM ad cA (sq3 u.1 (scR hs ht c0 u)) dv ib (scC hs ht c0 Ac u) hs ht (nI c0) (nI (scK hs c0 u)) (scR hs ht c0 u) (scT hs ht c0 u) dc u.2.2.2.2.2.1 (scT hs ht c0 u) Ac ts gt lt) := hD
  refine lv_aload_n hx hb dM_passSecond_38 rfl (lv_at hl 0 rfl) ?_
  refine ct_cvv (As := []) (rest := []) (wr := []) (w1 := (wM ad cA (sq4 u.1 (scR hs ht c0 u) (scC hs ht c0 Ac u)) dv ib (scC hs ht c0 Ac u) hs ht (nI c0) (nI (scK hs c0 u)) (scR hs ht c0 u) (scT hs ht c0 u) dc u.2.2.2.2.2.1 (scT hs ht c0 u) Ac ts gt lt)) ⟨hx, hb, hml, hown, hts⟩ (cM_splitGelledStarch l dC dI tt _ ad cA (sq3 u.1 (scR hs ht c0 u)) dv ib (scC hs ht c0 Ac u) hs ht (nI c0) (nI (scK hs c0 u)) (scR hs ht c0 u) (scT hs ht c0 u) dc u.2.2.2.2.2.1 (scT hs ht c0 u) Ac ts gt lt hok.2.2.2.2.2.2.2.1) (gT_V tw_m_M_125 tw_i_yM_splitGelledStarch tw_s_yM_splitGelledStarch tw_I_M tw_c_yM_splitGelledStarch) ⟨rfl, by decide +kernel, by decide +kernel, (by decide +kernel : (parseMethodDescriptor yM_splitGelledStarch.desc).map (fun d => d.parameters.length) = some 0)⟩ ⟨by decide, by decide⟩ (ci := 0) rfl rfl rfl hP hD hK hS hA hT [0, 1, 2, 3, 4, 5, 6, 7, 8, 9, 10, 11, 12, 13, 14, 15, 16, 17] [] [0, 1, 2, 3, 4, 5, 6, 7] (by decide) rfl rfl (by decide) (by decide) rfl hl.1 rfl (Nat.le_of_ble_eq_true rfl) dM_passSecond_39 ⟨by decide, by decide⟩ (fun H locs hP hD hS => ?_)
  have hP : va_P (dC, dI) cls (wM ad cA (sq4 u.1 (scR hs ht c0 u) (scC hs ht c0 Ac u)) dv ib (scC hs ht c0 Ac u) hs ht (nI c0) (nI (scK hs c0 u)) (scR hs ht c0 u) (scT hs ht c0 u) dc u.2.2.2.2.2.1 (scT hs ht c0 u) Ac ts gt lt) H := hP
  have hD : va_D A (wM ad cA (sq4 u.1 (scR hs ht c0 u) (scC hs ht c0 Ac u)) dv ib (scC hs ht c0 Ac u) hs ht (nI c0) (nI (scK hs c0 u)) (scR hs ht c0 u) (scT hs ht c0 u) dc u.2.2.2.2.2.1 (scT hs ht c0 u) Ac ts gt lt) := hD
  refine lv_aload_n hx hb dM_passSecond_42 rfl (lv_at hl 0 rfl) ?_
  refine ct_cvv (As := []) (rest := []) (wr := []) (w1 := (wM ad cA (sq5 u.1 (scR hs ht c0 u) (scC hs ht c0 Ac u)) dv ib (scC hs ht c0 Ac u) hs ht (nI c0) (nI (scK hs c0 u)) (scR hs ht c0 u) (scT hs ht c0 u) dc u.2.2.2.2.2.1 (scT hs ht c0 u) Ac ts gt lt)) ⟨hx, hb, hml, hown, hts⟩ (cM_splitDextrinsToMaltose l dC dI tt _ ad cA (sq4 u.1 (scR hs ht c0 u) (scC hs ht c0 Ac u)) dv ib (scC hs ht c0 Ac u) hs ht (nI c0) (nI (scK hs c0 u)) (scR hs ht c0 u) (scT hs ht c0 u) dc u.2.2.2.2.2.1 (scT hs ht c0 u) Ac ts gt lt hok.2.2.2.2.2.2.2.2.1) (gT_V tw_m_M_128 tw_i_yM_splitDextrinsToMaltose tw_s_yM_splitDextrinsToMaltose tw_I_M tw_c_yM_splitDextrinsToMaltose) ⟨rfl, by decide +kernel, by decide +kernel, (by decide +kernel : (parseMethodDescriptor yM_splitDextrinsToMaltose.desc).map (fun d => d.parameters.length) = some 0)⟩ ⟨by decide, by decide⟩ (ci := 0) rfl rfl rfl hP hD hK hS hA hT [0, 1, 2, 3, 4, 5, 6, 7, 8, 9, 10, 11, 12, 13, 14, 15, 16, 17] [] [0, 1, 2, 3, 4, 5, 6, 7] (by decide) rfl rfl (by decide) (by decide) rfl hl.1 rfl (Nat.le_of_ble_eq_true rfl) dM_passSecond_43 ⟨by decide, by decide⟩ (fun H locs hP hD hS => ?_)
  have hP : va_P (dC, dI) cls (wM ad cA (sq5 u.1 (scR hs ht c0 u) (scC hs ht c0 Ac u)) dv ib (scC hs ht c0 Ac u) hs ht (nI c0) (nI (scK hs c0 u)) (scR hs ht c0 u) (scT hs ht c0 u) dc u.2.2.2.2.2.1 (scT hs ht c0 u) Ac ts gt lt) H := hP
  have hD : va_D A (wM ad cA (sq5 u.1 (scR hs ht c0 u) (scC hs ht c0 Ac u)) dv ib (scC hs ht c0 Ac u) hs ht (nI c0) (nI (scK hs c0 u)) (scR hs ht c0 u) (scT hs ht c0 u) dc u.2.2.2.2.2.1 (scT hs ht c0 u) Ac ts gt lt) := hD
  refine lv_aload_n hx hb dM_passSecond_46 rfl (lv_at hl 0 rfl) ?_
  refine ct_cvv (As := []) (rest := []) (wr := []) (w1 := (wM ad cA (sq6 u.1 (scR hs ht c0 u) (scC hs ht c0 Ac u)) dv ib (scC hs ht c0 Ac u) hs ht (nI c0) (nI (scK hs c0 u)) (scR hs ht c0 u) (scT hs ht c0 u) dc u.2.2.2.2.2.1 (scT hs ht c0 u) Ac ts gt lt)) ⟨hx, hb, hml, hown, hts⟩ (cM_splitDextrinsToGlucose l dC dI tt _ ad cA (sq5 u.1 (scR hs ht c0 u) (scC hs ht c0 Ac u)) dv ib (scC hs ht c0 Ac u) hs ht (nI c0) (nI (scK hs c0 u)) (scR hs ht c0 u) (scT hs ht c0 u) dc u.2.2.2.2.2.1 (scT hs ht c0 u) Ac ts gt lt hok.2.2.2.2.2.2.2.2.2.1) (gT_V tw_m_M_131 tw_i_yM_splitDextrinsToGlucose tw_s_yM_splitDextrinsToGlucose tw_I_M tw_c_yM_splitDextrinsToGlucose) ⟨rfl, by decide +kernel, by decide +kernel, (by decide +kernel : (parseMethodDescriptor yM_splitDextrinsToGlucose.desc).map (fun d => d.parameters.length) = some 0)⟩ ⟨by decide, by decide⟩ (ci := 0) rfl rfl rfl hP hD hK hS hA hT [0, 1, 2, 3, 4, 5, 6, 7, 8, 9, 10, 11, 12, 13, 14, 15, 16, 17] [] [0, 1, 2, 3, 4, 5, 6, 7] (by decide) rfl rfl (by decide) (by decide) rfl hl.1 rfl (Nat.le_of_ble_eq_true rfl) dM_passSecond_47 ⟨by decide, by decide⟩ (fun H locs hP hD hS => ?_)
  have hP : va_P (dC, dI) cls (wM ad cA (sq6 u.1 (scR hs ht c0 u) (scC hs ht c0 Ac u)) dv ib (scC hs ht c0 Ac u) hs ht (nI c0) (nI (scK hs c0 u)) (scR hs ht c0 u) (scT hs ht c0 u) dc u.2.2.2.2.2.1 (scT hs ht c0 u) Ac ts gt lt) H := hP
  have hD : va_D A (wM ad cA (sq6 u.1 (scR hs ht c0 u) (scC hs ht c0 Ac u)) dv ib (scC hs ht c0 Ac u) hs ht (nI c0) (nI (scK hs c0 u)) (scR hs ht c0 u) (scT hs ht c0 u) dc u.2.2.2.2.2.1 (scT hs ht c0 u) Ac ts gt lt) := hD
  refine lv_aload_n hx hb dM_passSecond_50 rfl (lv_at hl 0 rfl) ?_
  refine ct_cvv (As := []) (rest := []) (wr := []) (w1 := (wM ad cA (sq7 u.1 (scR hs ht c0 u) (scC hs ht c0 Ac u)) dv ib (scC hs ht c0 Ac u) hs ht (nI c0) (nI (scK hs c0 u)) (scR hs ht c0 u) (scT hs ht c0 u) dc u.2.2.2.2.2.1 (scT hs ht c0 u) Ac ts gt lt)) ⟨hx, hb, hml, hown, hts⟩ (cM_splitProtein l dC dI tt _ ad cA (sq6 u.1 (scR hs ht c0 u) (scC hs ht c0 Ac u)) dv ib (scC hs ht c0 Ac u) hs ht (nI c0) (nI (scK hs c0 u)) (scR hs ht c0 u) (scT hs ht c0 u) dc u.2.2.2.2.2.1 (scT hs ht c0 u) Ac ts gt lt hok.2.2.2.2.2.2.2.2.2.2.1) (gT_V tw_m_M_134 tw_i_yM_splitProtein tw_s_yM_splitProtein tw_I_M tw_c_yM_splitProtein) ⟨rfl, by decide +kernel, by decide +kernel, (by decide +kernel : (parseMethodDescriptor yM_splitProtein.desc).map (fun d => d.parameters.length) = some 0)⟩ ⟨by decide, by decide⟩ (ci := 0) rfl rfl rfl hP hD hK hS hA hT [0, 1, 2, 3, 4, 5, 6, 7, 8, 9, 10, 11, 12, 13, 14, 15, 16, 17] [] [0, 1, 2, 3, 4, 5, 6, 7] (by decide) rfl rfl (by decide) (by decide) rfl hl.1 rfl (Nat.le_of_ble_eq_true rfl) dM_passSecond_51 ⟨by decide, by decide⟩ (fun H locs hP hD hS => ?_)
  have hP : va_P (dC, dI) cls (wM ad cA (sq7 u.1 (scR hs ht c0 u) (scC hs ht c0 Ac u)) dv ib (scC hs ht c0 Ac u) hs ht (nI c0) (nI (scK hs c0 u)) (scR hs ht c0 u) (scT hs ht c0 u) dc u.2.2.2.2.2.1 (scT hs ht c0 u) Ac ts gt lt) H := hP
  have hD : va_D A (wM ad cA (sq7 u.1 (scR hs ht c0 u) (scC hs ht c0 Ac u)) dv ib (scC hs ht c0 Ac u) hs ht (nI c0) (nI (scK hs c0 u)) (scR hs ht c0 u) (scT hs ht c0 u) dc u.2.2.2.2.2.1 (scT hs ht c0 u) Ac ts gt lt) := hD
  refine lv_aload_n hx hb dM_passSecond_54 rfl (lv_at hl 0 rfl) ?_
  refine ct_cvv (As := []) (rest := []) (wr := []) (w1 := (wM ad cA (sq8 u.1 (scR hs ht c0 u) (scC hs ht c0 Ac u)) dv ib (scC hs ht c0 Ac u) hs ht (nI c0) (nI (scK hs c0 u)) (scR hs ht c0 u) (scT hs ht c0 u) dc u.2.2.2.2.2.1 (scT hs ht c0 u) Ac ts gt lt)) ⟨hx, hb, hml, hown, hts⟩ (cM_decayEnzymes l dC dI tt _ ad cA (sq7 u.1 (scR hs ht c0 u) (scC hs ht c0 Ac u)) dv ib (scC hs ht c0 Ac u) hs ht (nI c0) (nI (scK hs c0 u)) (scR hs ht c0 u) (scT hs ht c0 u) dc u.2.2.2.2.2.1 (scT hs ht c0 u) Ac ts gt lt hok.2.2.2.2.2.2.2.2.2.2.2) (gT_V tw_m_M_137 tw_i_yM_decayEnzymes tw_s_yM_decayEnzymes tw_I_M tw_c_yM_decayEnzymes) ⟨rfl, by decide +kernel, by decide +kernel, (by decide +kernel : (parseMethodDescriptor yM_decayEnzymes.desc).map (fun d => d.parameters.length) = some 0)⟩ ⟨by decide, by decide⟩ (ci := 0) rfl rfl rfl hP hD hK hS hA hT [0, 1, 2, 3, 4, 5, 6, 7, 8, 9, 10, 11, 12, 13, 14, 15, 16, 17] [] [0, 1, 2, 3, 4, 5, 6, 7] (by decide) rfl rfl (by decide) (by decide) rfl hl.1 rfl (Nat.le_of_ble_eq_true rfl) dM_passSecond_55 ⟨by decide, by decide⟩ (fun H locs hP hD hS => ?_)
  have hP : va_P (dC, dI) cls (wM ad cA (sq8 u.1 (scR hs ht c0 u) (scC hs ht c0 Ac u)) dv ib (scC hs ht c0 Ac u) hs ht (nI c0) (nI (scK hs c0 u)) (scR hs ht c0 u) (scT hs ht c0 u) dc u.2.2.2.2.2.1 (scT hs ht c0 u) Ac ts gt lt) H := hP
  have hD : va_D A (wM ad cA (sq8 u.1 (scR hs ht c0 u) (scC hs ht c0 Ac u)) dv ib (scC hs ht c0 Ac u) hs ht (nI c0) (nI (scK hs c0 u)) (scR hs ht c0 u) (scT hs ht c0 u) dc u.2.2.2.2.2.1 (scT hs ht c0 u) Ac ts gt lt) := hD
  refine lv_aload_n hx hb dM_passSecond_58 rfl (lv_at hl 0 rfl) ?_
  refine lv_aload_n hx hb dM_passSecond_59 rfl (lv_at hl 0 rfl) ?_
  refine va_get (D := (dC, dI)) (ci := 0) (v := .int u.2.2.2.2.2.1) (C := "MashEnzymes") (T := F_M) (N := 13) hx hb hts in_M hown hK hP 0 rfl rfl 7 (by decide) (hts _ tw_f_M_81) (fun _ h9 => h9) rfl dM_passSecond_60 ?_
  refine lv_iconst (v := 1) hx hb dM_passSecond_63 (by decide) ?_
  refine lv_iadd hx hb dM_passSecond_64 ?_
  refine va_put (D := (dC, dI)) (ci := 0) (v := .int (u.2.2.2.2.2.1 + 1)) (ty := .int) (C := "MashEnzymes") (T := F_M) (N := 13) hx hb hts in_M t_M t_M_ok n_M hown hK hP hD hS 0 rfl rfl 7 (by decide) (hts _ tw_f_M_81) (fun _ h9 => h9) rfl (by decide +kernel) rfl rfl (Nat.le_of_ble_eq_true rfl) dM_passSecond_65 (fun H locs hP hD hS => ?_)
  have hP : va_P (dC, dI) cls (wM ad cA (sq8 u.1 (scR hs ht c0 u) (scC hs ht c0 Ac u)) dv ib (scC hs ht c0 Ac u) hs ht (nI c0) (nI (scK hs c0 u)) (scR hs ht c0 u) (scT hs ht c0 u) dc (u.2.2.2.2.2.1 + 1) (scT hs ht c0 u) Ac ts gt lt) H := hP
  have hD : va_D A (wM ad cA (sq8 u.1 (scR hs ht c0 u) (scC hs ht c0 Ac u)) dv ib (scC hs ht c0 Ac u) hs ht (nI c0) (nI (scK hs c0 u)) (scR hs ht c0 u) (scT hs ht c0 u) dc (u.2.2.2.2.2.1 + 1) (scT hs ht c0 u) Ac ts gt lt) := hD
  exact ct_vret hx hb hr hlocks hP hK hD hS dM_passSecond_68

/-- so many seconds may go by -/
def rnOK (gt lt sec nw : Int32) : Prop := ¬ (gt = 0 ∨ lt = 0) ∧ 0 ≤ sec ∧ sec ≤ 100000 ∧ sec ≤ 1000000 - nw
set_option maxHeartbeats 4000000 in
set_option maxRecDepth 100000 in
/-- run -/
theorem cM_run (l : Launch) (dC : Nat → ClassId) (dI : Nat → Nat → Nat) (tt : Nat → Nat) (sz : Nat) (ad : Nat → Nat) (cA : Nat → ClassId) (dv : Nat → Nat → UInt64) (ib : Nat → Int32) (hs : Nat → Int32) (ht : Nat → UInt64) (c0 : Nat) (dc : Int32) (Ac ts : UInt64) (gt lt : Int32) (u : SS) (sec : Int32) (hc32 : c0 ≤ 32) (hAc : ft_P Ac) (hok : rnOK gt lt sec u.2.2.2.2.2.1 → ∀ i, i < sec.toNatClampNeg → okS hs ht c0 Ac (itS hs ht c0 Ac i u)) : Ct l dC dI tt yM_run bM_run 3 (some .int) ({ frames := 6, cells := 0, slots := 0, locals := 135 }) (tM cA) [.ref (ad 0), .int sec] (wM ad cA u.1 dv ib u.2.1 hs ht (nI c0) (nI u.2.2.1) u.2.2.2.1 u.2.2.2.2.1 dc u.2.2.2.2.2.1 u.2.2.2.2.2.2 Ac ts gt lt) sz (fun A => ctQc dC dI (tM cA) (rnOK gt lt sec u.2.2.2.2.2.1) (itS hs ht c0 Ac sec.toNatClampNeg u).2.2.2.2.2.1 (wS ad cA dv ib hs ht c0 dc Ac ts gt lt (itS hs ht c0 Ac sec.toNatClampNeg u)) (-1) (wS ad cA dv ib hs ht c0 dc Ac ts gt lt u) A) := by
  refine ct_of (by decide) (Nat.le_of_ble_eq_true rfl) ?_
  intro p e s m below meth c A ls hx hb hr hts hown hml hlocks hnm hA hS hP hK hD hT hl
  have hl : lv_has ls 3 [(0, .ref (ad 0)), (1, .int sec)] := hl
  refine lv_aload_n hx hb dM_run_0 rfl (lv_at hl 0 rfl) ?_
  refine ct_cvc (As := []) (rest := []) (wr := []) (w1 := (wM ad cA u.1 dv ib u.2.1 hs ht (nI c0) (nI u.2.2.1) u.2.2.2.1 u.2.2.2.2.1 dc u.2.2.2.2.2.1 u.2.2.2.2.2.2 Ac ts gt lt)) (w0 := (wM ad cA u.1 dv ib u.2.1 hs ht (nI c0) (nI u.2.2.1) u.2.2.2.1 u.2.2.2.2.1 dc u.2.2.2.2.2.1 u.2.2.2.2.2.2 Ac ts gt lt)) ⟨hx, hb, hml, hown, hts⟩ (cM_isEmpty l dC dI tt _ ad cA u.1 dv ib u.2.1 hs ht (nI c0) (nI u.2.2.1) u.2.2.2.1 u.2.2.2.2.1 dc u.2.2.2.2.2.1 u.2.2.2.2.2.2 Ac ts gt lt) (gT_V tw_m_M_90 tw_i_yM_isEmpty tw_s_yM_isEmpty tw_I_M tw_c_yM_isEmpty) ⟨rfl, by decide +kernel, by decide +kernel, (by decide +kernel : (parseMethodDescriptor yM_isEmpty.desc).map (fun d => d.parameters.length) = some 0)⟩ ⟨by decide, by decide⟩ (ci := 0) rfl rfl rfl hP hD hK hS hA hT [0, 1, 2, 3, 4, 5, 6, 7, 8, 9, 10, 11, 12, 13, 14, 15, 16, 17] [] [0, 1, 2, 3, 4, 5, 6, 7] (by decide) rfl rfl (by decide) (by decide) rfl hl.1 rfl (Nat.le_of_ble_eq_true rfl) dM_run_1 ⟨by decide, by decide⟩ (fun c_1 H locs hP hD hS => ?_) (fun c_1 H locs hP hD hS => ?_)
  · have hP : va_P (dC, dI) cls (wM ad cA u.1 dv ib u.2.1 hs ht (nI c0) (nI u.2.2.1) u.2.2.2.1 u.2.2.2.2.1 dc u.2.2.2.2.2.1 u.2.2.2.2.2.2 Ac ts gt lt) H := hP
    have hD : va_D A (wM ad cA u.1 dv ib u.2.1 hs ht (nI c0) (nI u.2.2.1) u.2.2.2.1 u.2.2.2.2.1 dc u.2.2.2.2.2.1 u.2.2.2.2.2.2 Ac ts gt lt) := hD
    refine lv_if_ne (tgt := 28) hx hb dM_run_4 (by decide) (fun c_2 => ?_) (fun c_2 => ?_)
    · refine lv_iconst (v := (-1)) hx hb dM_run_28 (by decide) ?_
      exact ct_ret0 hx hb hr rfl hlocks hP hK hD hS (fun h => h.1 c_1) rfl dM_run_29
    · exact (absurd c_2 (by decide))
  · have hP : va_P (dC, dI) cls (wM ad cA u.1 dv ib u.2.1 hs ht (nI c0) (nI u.2.2.1) u.2.2.2.1 u.2.2.2.2.1 dc u.2.2.2.2.2.1 u.2.2.2.2.2.2 Ac ts gt lt) H := hP
    have hD : va_D A (wM ad cA u.1 dv ib u.2.1 hs ht (nI c0) (nI u.2.2.1) u.2.2.2.1 u.2.2.2.2.1 dc u.2.2.2.2.2.1 u.2.2.2.2.2.2 Ac ts gt lt) := hD
    refine lv_if_ne (tgt := 28) hx hb dM_run_4 (by decide) (fun c_3 => ?_) (fun c_3 => ?_)
    · exact absurd rfl c_3
    · refine lv_iload_n hx hb dM_run_7 rfl (lv_at hl 1 rfl) ?_
      refine lv_if_lt (tgt := 28) hx hb dM_run_8 (by decide) (fun c_4 => ?_) (fun c_4 => ?_)
      · refine lv_iconst (v := (-1)) hx hb dM_run_28 (by decide) ?_
        exact ct_ret0 hx hb hr rfl hlocks hP hK hD hS (fun h => Int32.not_lt.mpr h.2.1 c_4) rfl dM_run_29
      · refine lv_iload_n hx hb dM_run_11 rfl (lv_at hl 1 rfl) ?_
        refine lv_ldc hx hb hown (hts _ tw_k_M_94) dM_run_12 ?_
        refine lv_icmp_gt (tgt := 28) hx hb dM_run_14 (by decide) (fun c_5 => ?_) (fun c_5 => ?_)
        · refine lv_iconst (v := (-1)) hx hb dM_run_28 (by decide) ?_
          exact ct_ret0 hx hb hr rfl hlocks hP hK hD hS (fun h => Int32.not_lt.mpr h.2.2.1 c_5) rfl dM_run_29
        · refine lv_iload_n hx hb dM_run_17 rfl (lv_at hl 1 rfl) ?_
          refine lv_ldc hx hb hown (hts _ tw_k_M_85) dM_run_18 ?_
          refine lv_aload_n hx hb dM_run_20 rfl (lv_at hl 0 rfl) ?_
          refine va_get (D := (dC, dI)) (ci := 0) (v := .int u.2.2.2.2.2.1) (C := "MashEnzymes") (T := F_M) (N := 13) hx hb hts in_M hown hK hP 0 rfl rfl 7 (by decide) (hts _ tw_f_M_81) (fun _ h9 => h9) rfl dM_run_21 ?_
          refine lv_isub hx hb dM_run_24 ?_
          refine lv_icmp_le (tgt := 30) hx hb dM_run_25 (by decide) (fun c_6 => ?_) (fun c_6 => ?_)
          · have hrn : rnOK gt lt sec u.2.2.2.2.2.1 := ⟨c_1, Int32.not_lt.mp c_4, Int32.not_lt.mp c_5, c_6⟩
            obtain ⟨N, hN, rfl⟩ := nI_of (x := sec) c_4
            have hNc : (nI N).toNatClampNeg = N := nI_clamp hN
            rw [hNc] at hok
            rw [hNc]
            have key : ∀ (n i : Nat) (ls : Array Slot) (H : Heap) (locs : List Loc), n + i = N → va_P (dC, dI) cls (wS ad cA dv ib hs ht c0 dc Ac ts gt lt (itS hs ht c0 Ac i u)) H → va_D A (wS ad cA dv ib hs ht c0 dc Ac ts gt lt (itS hs ht c0 Ac i u)) → va_S A s.heap H locs → lv_has ls 3 [(2, .int (nI i)), (1, .int (nI N)), (0, .ref (ad 0))] → W p l e ({ frames := 6, cells := 0, slots := 0, locals := 135 } : Room) s m ([.ref (ad 0), .int (nI N)] : List Value).toArray below meth c H locs 0 0 (MQ below (ctQc dC dI (tM cA) (rnOK gt lt (nI N) u.2.2.2.2.2.1) (itS hs ht c0 Ac N u).2.2.2.2.2.1 (wS ad cA dv ib hs ht c0 dc Ac ts gt lt (itS hs ht c0 Ac N u)) (-1) (wS ad cA dv ib hs ht c0 dc Ac ts gt lt u) A) ([.ref (ad 0), .int (nI N)] : List Value).toArray s 0 0 A) (F0 m 32 ls []) := by
              intro n
              induction n with
              | zero =>
                intro i ls H locs hni hP hD hS hl
                refine lv_iload_n hx hb dM_run_32 rfl (lv_at hl 0 rfl) ?_
                refine lv_iload_n hx hb dM_run_33 rfl (lv_at hl 1 rfl) ?_
                refine lv_icmp_ge (tgt := 47) hx hb dM_run_34 (by decide) (fun c_7 => ?_) (fun c_7 => ?_)
                · have hi : i = N := by omega
                  subst hi
                  refine lv_aload_n hx hb dM_run_47 rfl (lv_at hl 2 rfl) ?_
                  refine va_get (D := (dC, dI)) (ci := 0) (v := .int ((itS hs ht c0 Ac i u).2.2.2.2.2.1)) (C := "MashEnzymes") (T := F_M) (N := 13) hx hb hts in_M hown hK hP 0 rfl rfl 7 (by decide) (hts _ tw_f_M_81) (fun _ h9 => h9) rfl dM_run_48 ?_
                  exact ct_ret1 hx hb hr rfl hlocks hP hK hD hS hrn rfl dM_run_51
                · exact absurd (nI_le (a := N) (b := i) (by omega) (by omega)) c_7
              | succ n ih =>
                intro i ls H locs hni hP hD hS hl
                refine lv_iload_n hx hb dM_run_32 rfl (lv_at hl 0 rfl) ?_
                refine lv_iload_n hx hb dM_run_33 rfl (lv_at hl 1 rfl) ?_
                refine lv_icmp_ge (tgt := 47) hx hb dM_run_34 (by decide) (fun c_8 => ?_) (fun c_8 => ?_)
                · exact absurd ((nI_leI (a := N) (b := i) (by omega) (by omega)).mp c_8) (by omega)
                · refine lv_aload_n hx hb dM_run_37 rfl (lv_at hl 2 rfl) ?_
                  refine ct_cvv (As := []) (rest := []) (wr := []) (w1 := (wM ad cA ((itS hs ht c0 Ac (i + 1) u).1) dv ib ((itS hs ht c0 Ac (i + 1) u).2.1) hs ht (nI c0) (nI (itS hs ht c0 Ac (i + 1) u).2.2.1) ((itS hs ht c0 Ac (i + 1) u).2.2.2.1) ((itS hs ht c0 Ac (i + 1) u).2.2.2.2.1) dc ((itS hs ht c0 Ac (i + 1) u).2.2.2.2.2.1) ((itS hs ht c0 Ac (i + 1) u).2.2.2.2.2.2) Ac ts gt lt)) ⟨hx, hb, hml, hown, hts⟩ (cM_passSecond l dC dI tt _ ad cA dv ib hs ht c0 dc Ac ts gt lt (itS hs ht c0 Ac i u) hc32 hAc (hok hrn i (by omega))) (gT_V tw_m_M_95 tw_i_yM_passSecond tw_s_yM_passSecond tw_I_M tw_c_yM_passSecond) ⟨rfl, by decide +kernel, by decide +kernel, (by decide +kernel : (parseMethodDescriptor yM_passSecond.desc).map (fun d => d.parameters.length) = some 0)⟩ ⟨by decide, by decide⟩ (ci := 0) rfl rfl rfl hP hD hK hS hA hT [0, 1, 2, 3, 4, 5, 6, 7, 8, 9, 10, 11, 12, 13, 14, 15, 16, 17] [] [0, 1, 2, 3, 4, 5, 6, 7] (by decide) rfl rfl (by decide) (by decide) rfl hl.1 rfl (Nat.le_of_ble_eq_true rfl) dM_run_38 ⟨by decide, by decide⟩ (fun H locs hP hD hS => ?_)
                  have hP : va_P (dC, dI) cls (wM ad cA ((itS hs ht c0 Ac (i + 1) u).1) dv ib ((itS hs ht c0 Ac (i + 1) u).2.1) hs ht (nI c0) (nI (itS hs ht c0 Ac (i + 1) u).2.2.1) ((itS hs ht c0 Ac (i + 1) u).2.2.2.1) ((itS hs ht c0 Ac (i + 1) u).2.2.2.2.1) dc ((itS hs ht c0 Ac (i + 1) u).2.2.2.2.2.1) ((itS hs ht c0 Ac (i + 1) u).2.2.2.2.2.2) Ac ts gt lt) H := hP
                  have hD : va_D A (wM ad cA ((itS hs ht c0 Ac (i + 1) u).1) dv ib ((itS hs ht c0 Ac (i + 1) u).2.1) hs ht (nI c0) (nI (itS hs ht c0 Ac (i + 1) u).2.2.1) ((itS hs ht c0 Ac (i + 1) u).2.2.2.1) ((itS hs ht c0 Ac (i + 1) u).2.2.2.2.1) dc ((itS hs ht c0 Ac (i + 1) u).2.2.2.2.2.1) ((itS hs ht c0 Ac (i + 1) u).2.2.2.2.2.2) Ac ts gt lt) := hD
                  refine lv_iinc (v := (nI (i + 1))) (lv' := [(2, .int (nI (i + 1))), (1, .int (nI N)), (0, .ref (ad 0))]) hx hb dM_run_41 hl (k := 0) rfl (nI_1 i) (by decide) rfl (fun ls hl => ?_)
                  refine lv_goto (tgt := 32) hx hb dM_run_44 (by decide) ?_
                  exact ih (i + 1) ls H locs (by omega) hP hD hS (lv_sub hl [0, 1, 2] rfl)
            refine lv_iconst (v := 0) hx hb dM_run_30 (by decide) ?_
            refine ct_topi (y := nI 0) (rfl) ?_
            refine lv_istore_n (lv' := [(2, .int (nI 0)), (0, .ref (ad 0)), (1, .int (nI N))]) hx hb dM_run_31 rfl hl (by decide) rfl (fun ls hl => ?_)
            exact key N 0 ls _ _ rfl hP hD hS (lv_sub hl [0, 2, 1] rfl)
          · refine lv_iconst (v := (-1)) hx hb dM_run_28 (by decide) ?_
            exact ct_ret0 hx hb hr rfl hlocks hP hK hD hS (fun h => c_6 h.2.2.2) rfl dM_run_29
end
section
theorem cvn_g {o : Option Ordering} (h : o ≠ none) : 0 < Op.cmpValue o .g ↔ o = some .gt := by
  rw [cv_g_gt]
  exact ⟨fun h1 => h1.elim id (fun h2 => absurd h2 h), Or.inl⟩
theorem cvn_l {o : Option Ordering} (h : o ≠ none) : Op.cmpValue o .l < 0 ↔ o = some .lt := by
  rw [cv_l_lt]
  exact ⟨fun h1 => h1.elim id (fun h2 => absurd h2 h), Or.inl⟩
/-- what kinds answer -/
def kdV (a : Nat → UInt64) (b n : Nat) (kind : Int32) : UInt64 := if 0 ≤ kind ∧ kind < nI n then a (b + kind.toNatClampNeg) else 13830554455654793216
/-- the wishes that are granted -/
def grOK (kg st : UInt64) (kind : Int32) : Prop := FP.dcmp kg 0 = some .gt ∧ ¬ FP.dcmp kg 4652007308841189376 = some .gt ∧ ¬ FP.dcmp st 0 = some .lt ∧ ¬ FP.dcmp st 4607182418800017408 = some .gt ∧ 0 ≤ kind ∧ kind < 3
def lqOK (li d ac : UInt64) : Prop := FP.dcmp li 0 = some .gt ∧ ¬ FP.dcmp li 4666723172467343360 = some .gt ∧ tpOK d ∧ ¬ FP.dcmp ac 4613937818241073152 = some .lt ∧ ¬ FP.dcmp ac 4620693217682128896 = some .gt
def ezOK (kind : Int32) (am : UInt64) : Prop := FP.dcmp am 0 = some .gt ∧ ¬ FP.dcmp am 4652007308841189376 = some .gt ∧ 0 ≤ kind ∧ kind < 4
def stOK (hs : Nat → Int32) (c0 : Nat) (nw sec : Int32) (d : UInt64) : Prop := nw < sec ∧ sec ≤ 1000000 ∧ tpOK d ∧ apOK hs c0 sec
def tkS (sh : UInt64) (gt lt : Int32) : Prop := FP.dcmp sh 0 = some .gt ∧ FP.dcmp sh 4607182418800017408 = some .lt ∧ ¬ (gt = 0 ∨ lt = 0)
def bkOK (ib : Nat → Int32) (dc dec : Int32) (d : UInt64) : Prop := 0 ≤ dec ∧ dec < dc ∧ ib dec.toNatClampNeg = 0 ∧ tpOK d
/-- not known to be no number -/
def nNo (x : UInt64) : Prop := ∀ y, y = 0 ∨ y = 4652007308841189376 ∨ y = 4666723172467343360 ∨ y = 4636737291354636288 ∨ y = 4613937818241073152 ∨ y = 4620693217682128896 ∨ y = 4607182418800017408 → FP.dcmp x y ≠ none
/-- grain: shares of protein and of enzymes, by the kind -/
def gpD (k : Nat) : UInt64 := FP.ddiv (FP.i2d (nI (tb_GP k))) 4625196817309499392
def geD (k e : Nat) : UInt64 := FP.ddiv (FP.i2d (nI (tb_GE (k * 4 + e)))) 4620693217682128896
theorem gp_P : ∀ k, k < 3 → ft_isP (gpD k) = true := by decide +kernel
theorem ge_P : ∀ k, k < 3 → ∀ e, e < 4 → ft_isP (geD k e) = true := by decide +kernel
def gr2 (kg st : UInt64) (k : Nat) (a : Nat → UInt64) : Nat → UInt64 := vf_upd (vf_upd a 1 (FP.dadd (a 1) (FP.dmul kg st))) 8 (FP.dadd (a 8) (FP.dmul kg (gpD k)))
def grE (kg : UInt64) (k i : Nat) (a : Nat → UInt64) : Nat → UInt64 := fun m => if 9 ≤ m ∧ m < 9 + i then FP.dadd (a m) (FP.dmul kg (geD k (m - 9))) else a m
def grA (kg st : UInt64) (k : Nat) (a : Nat → UInt64) : Nat → UInt64 := grE kg k 4 (gr2 kg st k a)
theorem grE_0 (kg : UInt64) (k : Nat) (a : Nat → UInt64) : grE kg k 0 a = a := funext fun m => if_neg (by omega)
theorem grE_s (kg : UInt64) (k i : Nat) (a : Nat → UInt64) : vf_upd (grE kg k i a) (9 + i) (FP.dadd (a (9 + i)) (FP.dmul kg (geD k i))) = grE kg k (i + 1) a := funext fun m => by
  unfold vf_upd grE
  by_cases h : m = 9 + i
  · subst h
    rw [if_pos rfl, if_pos (by omega), show 9 + i - 9 = i by omega]
  · rw [if_neg h]
    by_cases h2 : 9 ≤ m ∧ m < 9 + i
    · rw [if_pos h2, if_pos (by omega)]
    · rw [if_neg h2, if_neg (by omega)]
theorem grE_at (kg : UInt64) (k i : Nat) (a : Nat → UInt64) : grE kg k i a (9 + i) = a (9 + i) := if_neg (by omega)
def okG (kg st : UInt64) (k : Nat) (a : Nat → UInt64) (ts : UInt64) : Prop := vf_n64 (FP.dmul kg st) ∧ vf_n64 (FP.dadd (a 1) (FP.dmul kg st)) ∧ vf_n64 (FP.dadd ts (FP.dmul kg st)) ∧ vf_n64 (FP.dmul kg (gpD k)) ∧ vf_n64 (FP.dadd (a 8) (FP.dmul kg (gpD k))) ∧ ∀ i, i < 4 → vf_n64 (FP.dmul kg (geD k i)) ∧ vf_n64 (FP.dadd (a (9 + i)) (FP.dmul kg (geD k i)))
/-- a decoction is parted, and joined -/
def tkD (a : Nat → UInt64) (sh : UInt64) (i : Nat) (r : Nat → UInt64) : Nat → UInt64 := fun m => if m < i then FP.dmul (a m) sh else r m
def tkA (a : Nat → UInt64) (sh : UInt64) (i : Nat) : Nat → UInt64 := fun m => if m < i then FP.dsub (a m) (FP.dmul (a m) sh) else a m
def bkA (a r : Nat → UInt64) (i : Nat) : Nat → UInt64 := fun m => if m < i then FP.dadd (a m) (r m) else a m
theorem fi_s {f g : Nat → UInt64} (i : Nat) : vf_upd (fun m => if m < i then f m else g m) i (f i) = fun m => if m < i + 1 then f m else g m := funext fun m => by
  unfold vf_upd
  by_cases h : m = i
  · subst h; simp
  · by_cases h2 : m < i
    · simp [h, h2, Nat.lt_succ_of_lt h2]
    · simp [h, h2, show ¬ m < i + 1 by omega]
theorem tkD_s (a : Nat → UInt64) (sh : UInt64) (i : Nat) (r : Nat → UInt64) : vf_upd (tkD a sh i r) i (FP.dmul (a i) sh) = tkD a sh (i + 1) r := fi_s (f := fun m => FP.dmul (a m) sh) i
theorem tkA_s (a : Nat → UInt64) (sh : UInt64) (i : Nat) : vf_upd (tkA a sh i) i (FP.dsub (a i) (FP.dmul (a i) sh)) = tkA a sh (i + 1) := fi_s (f := fun m => FP.dsub (a m) (FP.dmul (a m) sh)) i
theorem bkA_s (a r : Nat → UInt64) (i : Nat) : vf_upd (bkA a r i) i (FP.dadd (a i) (r i)) = bkA a r (i + 1) := fi_s (f := fun m => FP.dadd (a m) (r m)) i
theorem tkA_at (a : Nat → UInt64) (sh : UInt64) (i : Nat) : tkA a sh i i = a i := if_neg (Nat.lt_irrefl i)
theorem bkA_at (a r : Nat → UInt64) (i : Nat) : bkA a r i i = a i := if_neg (Nat.lt_irrefl i)
theorem tkD_at (a : Nat → UInt64) (sh : UInt64) (i : Nat) (r : Nat → UInt64) : tkD a sh (i + 1) r i = FP.dmul (a i) sh := if_pos (Nat.lt_succ_self i)
theorem tkD_0 (a : Nat → UInt64) (sh : UInt64) (r : Nat → UInt64) : tkD a sh 0 r = r := funext fun m => if_neg (Nat.not_lt_zero m)
theorem tkA_0 (a : Nat → UInt64) (sh : UInt64) : tkA a sh 0 = a := funext fun m => if_neg (Nat.not_lt_zero m)
theorem bkA_0 (a r : Nat → UInt64) : bkA a r 0 = a := funext fun m => if_neg (Nat.not_lt_zero m)
theorem va_up_id {α : Type} (f : Nat → α) (k : Nat) : va_up f k (f k) = f := funext fun m => by
  unfold va_up
  split
  · rename_i h; rw [h]
  · rfl
section WM
variable {ad : Nat → Nat} {cA : Nat → ClassId} {a : Nat → UInt64} {dv : Nat → Nat → UInt64} {ib : Nat → Int32} {ac : Nat → UInt64} {hs : Nat → Int32} {ht : Nat → UInt64} {hc hn : Int32} {rv : Nat → UInt64} {ra : UInt64} {dc nw : Int32} {Tm Ac ts : UInt64} {gt lt : Int32}
theorem wM_dec {k : Nat} (hk : k < 8) : (wM ad cA a dv ib ac hs ht hc hn rv ra dc nw Tm Ac ts gt lt)[10 + k]? = some (ad (k + 10), .inl (cA 7, 13, .inr (.inr (.inr (.inl (dv k)))))) := by
  rcases (show k = 0 ∨ k = 1 ∨ k = 2 ∨ k = 3 ∨ k = 4 ∨ k = 5 ∨ k = 6 ∨ k = 7 by omega) with rfl | rfl | rfl | rfl | rfl | rfl | rfl | rfl <;> rfl
theorem wM_set {k : Nat} (hk : k < 8) (r : Nat → UInt64) : (wM ad cA a dv ib ac hs ht hc hn rv ra dc nw Tm Ac ts gt lt).set (10 + k) (ad (k + 10), .inl (cA 7, 13, .inr (.inr (.inr (.inl r))))) = wM ad cA a (va_up dv k r) ib ac hs ht hc hn rv ra dc nw Tm Ac ts gt lt := by
  rcases (show k = 0 ∨ k = 1 ∨ k = 2 ∨ k = 3 ∨ k = 4 ∨ k = 5 ∨ k = 6 ∨ k = 7 by omega) with rfl | rfl | rfl | rfl | rfl | rfl | rfl | rfl <;> rfl
end WM
set_option maxHeartbeats 4000000 in
set_option maxRecDepth 100000 in
/-- sugar -/
theorem cM_sugar (l : Launch) (dC : Nat → ClassId) (dI : Nat → Nat → Nat) (tt : Nat → Nat) (sz : Nat) (ad : Nat → Nat) (cA : Nat → ClassId) (a : Nat → UInt64) (dv : Nat → Nat → UInt64) (ib : Nat → Int32) (ac : Nat → UInt64) (hs : Nat → Int32) (ht : Nat → UInt64) (hc hn : Int32) (rv : Nat → UInt64) (ra : UInt64) (dc nw : Int32) (Tm Ac ts : UInt64) (gt lt : Int32) (kind : Int32) : Ct l dC dI tt yM_sugar bM_sugar 2 (some .double) ({ frames := 0, cells := 0, slots := 0, locals := 0 }) (tM cA) [.ref (ad 0), .int kind] (wM ad cA a dv ib ac hs ht hc hn rv ra dc nw Tm Ac ts gt lt) sz (fun A => ctQd dC dI (tM cA) (kdV a 3 5 kind) (wM ad cA a dv ib ac hs ht hc hn rv ra dc nw Tm Ac ts gt lt) A) := by
  refine ct_of (by decide) (Nat.le_of_ble_eq_true rfl) ?_
  intro p e s m below meth c A ls hx hb hr hts hown hml hlocks hnm hA hS hP hK hD hT hl
  have hl : lv_has ls 2 [(0, .ref (ad 0)), (1, .int kind)] := hl
  refine lv_iload_n hx hb dM_sugar_0 rfl (lv_at hl 1 rfl) ?_
  refine lv_if_lt (tgt := 20) hx hb dM_sugar_1 (by decide) (fun c_1 => ?_) (fun c_1 => ?_)
  · refine lv_ldc2d hx hb hown (hts _ tw_d_M_98) dM_sugar_20 ?_
    exact ct_dret hx hb hr hlocks hP hK hD hS (by unfold kdV; rw [if_neg (fun h => Int32.not_lt.mpr h.1 c_1)]) dM_sugar_23
  · refine lv_iload_n hx hb dM_sugar_4 rfl (lv_at hl 1 rfl) ?_
    refine lv_iconst (v := 5) hx hb dM_sugar_5 (by decide) ?_
    refine lv_icmp_ge (tgt := 20) hx hb dM_sugar_6 (by decide) (fun c_2 => ?_) (fun c_2 => ?_)
    · refine lv_ldc2d hx hb hown (hts _ tw_d_M_98) dM_sugar_20 ?_
      exact ct_dret hx hb hr hlocks hP hK hD hS (by unfold kdV; rw [if_neg (fun h => Int32.not_lt.mpr c_2 h.2)]) dM_sugar_23
    · obtain ⟨k, hk, rfl⟩ := nI_of (x := kind) c_1
      have hk5 : k < 5 := Nat.lt_of_not_le fun h => c_2 (nI_le h hk)
      refine lv_aload_n hx hb dM_sugar_9 rfl (lv_at hl 0 rfl) ?_
      refine va_get (D := (dC, dI)) (ci := 0) (v := .ref (ad 1)) (C := "MashEnzymes") (T := F_M) (N := 13) hx hb hts in_M hown hK hP 0 rfl rfl 0 (by decide) (hts _ tw_f_M_9) (fun _ h9 => h9) rfl dM_sugar_10 ?_
      refine lv_iconst (v := 3) hx hb dM_sugar_13 (by decide) ?_
      refine lv_iload_n hx hb dM_sugar_14 rfl (lv_at hl 1 rfl) ?_
      refine lv_iadd hx hb dM_sugar_15 ?_
      refine ct_topi (y := nI (3 + k)) (by rw [show (3 : Int32) = nI 3 from rfl, nI_add]) ?_
      refine ct_dald (k := (3 + k)) (v := a (3 + k)) hx hb hK hP 1 0 rfl rfl (vp_in_nI (by omega) (by decide)) (nI_clamp (by omega)) (rfl) dM_sugar_16 ?_
      refine lv_goto (tgt := 23) hx hb dM_sugar_17 (by decide) ?_
      exact ct_dret hx hb hr hlocks hP hK hD hS (by unfold kdV; rw [if_pos ⟨nI_pos' hk, nI_lt hk5 (by decide)⟩, nI_clamp hk]) dM_sugar_23

set_option maxHeartbeats 4000000 in
set_option maxRecDepth 100000 in
/-- enzymeLeft -/
theorem cM_enzymeLeft (l : Launch) (dC : Nat → ClassId) (dI : Nat → Nat → Nat) (tt : Nat → Nat) (sz : Nat) (ad : Nat → Nat) (cA : Nat → ClassId) (a : Nat → UInt64) (dv : Nat → Nat → UInt64) (ib : Nat → Int32) (ac : Nat → UInt64) (hs : Nat → Int32) (ht : Nat → UInt64) (hc hn : Int32) (rv : Nat → UInt64) (ra : UInt64) (dc nw : Int32) (Tm Ac ts : UInt64) (gt lt : Int32) (kind : Int32) : Ct l dC dI tt yM_enzymeLeft bM_enzymeLeft 2 (some .double) ({ frames := 0, cells := 0, slots := 0, locals := 0 }) (tM cA) [.ref (ad 0), .int kind] (wM ad cA a dv ib ac hs ht hc hn rv ra dc nw Tm Ac ts gt lt) sz (fun A => ctQd dC dI (tM cA) (kdV a 9 4 kind) (wM ad cA a dv ib ac hs ht hc hn rv ra dc nw Tm Ac ts gt lt) A) := by
  refine ct_of (by decide) (Nat.le_of_ble_eq_true rfl) ?_
  intro p e s m below meth c A ls hx hb hr hts hown hml hlocks hnm hA hS hP hK hD hT hl
  have hl : lv_has ls 2 [(0, .ref (ad 0)), (1, .int kind)] := hl
  refine lv_iload_n hx hb dM_enzymeLeft_0 rfl (lv_at hl 1 rfl) ?_
  refine lv_if_lt (tgt := 21) hx hb dM_enzymeLeft_1 (by decide) (fun c_1 => ?_) (fun c_1 => ?_)
  · refine lv_ldc2d hx hb hown (hts _ tw_d_M_98) dM_enzymeLeft_21 ?_
    exact ct_dret hx hb hr hlocks hP hK hD hS (by unfold kdV; rw [if_neg (fun h => Int32.not_lt.mpr h.1 c_1)]) dM_enzymeLeft_24
  · refine lv_iload_n hx hb dM_enzymeLeft_4 rfl (lv_at hl 1 rfl) ?_
    refine lv_iconst (v := 4) hx hb dM_enzymeLeft_5 (by decide) ?_
    refine lv_icmp_ge (tgt := 21) hx hb dM_enzymeLeft_6 (by decide) (fun c_2 => ?_) (fun c_2 => ?_)
    · refine lv_ldc2d hx hb hown (hts _ tw_d_M_98) dM_enzymeLeft_21 ?_
      exact ct_dret hx hb hr hlocks hP hK hD hS (by unfold kdV; rw [if_neg (fun h => Int32.not_lt.mpr c_2 h.2)]) dM_enzymeLeft_24
    · obtain ⟨k, hk, rfl⟩ := nI_of (x := kind) c_1
      have hk5 : k < 4 := Nat.lt_of_not_le fun h => c_2 (nI_le h hk)
      refine lv_aload_n hx hb dM_enzymeLeft_9 rfl (lv_at hl 0 rfl) ?_
      refine va_get (D := (dC, dI)) (ci := 0) (v := .ref (ad 1)) (C := "MashEnzymes") (T := F_M) (N := 13) hx hb hts in_M hown hK hP 0 rfl rfl 0 (by decide) (hts _ tw_f_M_9) (fun _ h9 => h9) rfl dM_enzymeLeft_10 ?_
      refine lv_bipush (v := 9) hx hb dM_enzymeLeft_13 (by decide) ?_
      refine lv_iload_n hx hb dM_enzymeLeft_15 rfl (lv_at hl 1 rfl) ?_
      refine lv_iadd hx hb dM_enzymeLeft_16 ?_
      refine ct_topi (y := nI (9 + k)) (by rw [show (9 : Int32) = nI 9 from rfl, nI_add]) ?_
      refine ct_dald (k := (9 + k)) (v := a (9 + k)) hx hb hK hP 1 0 rfl rfl (vp_in_nI (by omega) (by decide)) (nI_clamp (by omega)) (rfl) dM_enzymeLeft_17 ?_
      refine lv_goto (tgt := 24) hx hb dM_enzymeLeft_18 (by decide) ?_
      exact ct_dret hx hb hr hlocks hP hK hD hS (by unfold kdV; rw [if_pos ⟨nI_pos' hk, nI_lt hk5 (by decide)⟩, nI_clamp hk]) dM_enzymeLeft_24

set_option maxHeartbeats 4000000 in
set_option maxRecDepth 100000 in
/-- starch -/
theorem cM_starch (l : Launch) (dC : Nat → ClassId) (dI : Nat → Nat → Nat) (tt : Nat → Nat) (sz : Nat) (ad : Nat → Nat) (cA : Nat → ClassId) (a : Nat → UInt64) (dv : Nat → Nat → UInt64) (ib : Nat → Int32) (ac : Nat → UInt64) (hs : Nat → Int32) (ht : Nat → UInt64) (hc hn : Int32) (rv : Nat → UInt64) (ra : UInt64) (dc nw : Int32) (Tm Ac ts : UInt64) (gt lt : Int32) (hok : vf_n64 (FP.dadd (a 1) (a 2))) : Ct l dC dI tt yM_starch bM_starch 1 (some .double) ({ frames := 0, cells := 0, slots := 0, locals := 0 }) (tM cA) [.ref (ad 0)] (wM ad cA a dv ib ac hs ht hc hn rv ra dc nw Tm Ac ts gt lt) sz (fun A => ctQd dC dI (tM cA) (FP.dadd (a 1) (a 2)) (wM ad cA a dv ib ac hs ht hc hn rv ra dc nw Tm Ac ts gt lt) A) := by
  refine ct_of (by decide) (Nat.le_of_ble_eq_true rfl) ?_
  intro p e s m below meth c A ls hx hb hr hts hown hml hlocks hnm hA hS hP hK hD hT hl
  have hl : lv_has ls 1 [(0, .ref (ad 0))] := hl
  refine lv_aload_n hx hb dM_starch_0 rfl (lv_at hl 0 rfl) ?_
  refine va_get (D := (dC, dI)) (ci := 0) (v := .ref (ad 1)) (C := "MashEnzymes") (T := F_M) (N := 13) hx hb hts in_M hown hK hP 0 rfl rfl 0 (by decide) (hts _ tw_f_M_9) (fun _ h9 => h9) rfl dM_starch_1 ?_
  refine lv_iconst (v := 1) hx hb dM_starch_4 (by decide) ?_
  refine ct_dald (k := 1) (v := a 1) hx hb hK hP 1 0 rfl rfl (by unfold vp_in; decide) (rfl) (rfl) dM_starch_5 ?_
  refine lv_aload_n hx hb dM_starch_6 rfl (lv_at hl 0 rfl) ?_
  refine va_get (D := (dC, dI)) (ci := 0) (v := .ref (ad 1)) (C := "MashEnzymes") (T := F_M) (N := 13) hx hb hts in_M hown hK hP 0 rfl rfl 0 (by decide) (hts _ tw_f_M_9) (fun _ h9 => h9) rfl dM_starch_7 ?_
  refine lv_iconst (v := 2) hx hb dM_starch_10 (by decide) ?_
  refine ct_dald (k := 2) (v := a 2) hx hb hK hP 1 0 rfl rfl (by unfold vp_in; decide) (rfl) (rfl) dM_starch_11 ?_
  refine lv_dadd hx hb dM_starch_12 (hok) ?_
  exact ct_dret hx hb hr hlocks hP hK hD hS (rfl) dM_starch_13

set_option maxHeartbeats 4000000 in
set_option maxRecDepth 100000 in
/-- degrees -/
theorem cM_degrees (l : Launch) (dC : Nat → ClassId) (dI : Nat → Nat → Nat) (tt : Nat → Nat) (sz : Nat) (ad : Nat → Nat) (cA : Nat → ClassId) (a : Nat → UInt64) (dv : Nat → Nat → UInt64) (ib : Nat → Int32) (ac : Nat → UInt64) (hs : Nat → Int32) (ht : Nat → UInt64) (hc hn : Int32) (rv : Nat → UInt64) (ra : UInt64) (dc nw : Int32) (Tm Ac ts : UInt64) (gt lt : Int32) : Ct l dC dI tt yM_degrees bM_degrees 1 (some .double) ({ frames := 0, cells := 0, slots := 0, locals := 0 }) (tM cA) [.ref (ad 0)] (wM ad cA a dv ib ac hs ht hc hn rv ra dc nw Tm Ac ts gt lt) sz (fun A => ctQd dC dI (tM cA) Tm (wM ad cA a dv ib ac hs ht hc hn rv ra dc nw Tm Ac ts gt lt) A) := by
  refine ct_of (by decide) (Nat.le_of_ble_eq_true rfl) ?_
  intro p e s m below meth c A ls hx hb hr hts hown hml hlocks hnm hA hS hP hK hD hT hl
  have hl : lv_has ls 1 [(0, .ref (ad 0))] := hl
  refine lv_aload_n hx hb dM_degrees_0 rfl (lv_at hl 0 rfl) ?_
  refine va_get (D := (dC, dI)) (ci := 0) (v := .double Tm) (C := "MashEnzymes") (T := F_M) (N := 13) hx hb hts in_M hown hK hP 0 rfl rfl 8 (by decide) (hts _ tw_f_M_68) (fun _ h9 => h9) rfl dM_degrees_1 ?_
  exact ct_dret hx hb hr hlocks hP hK hD hS (rfl) dM_degrees_4

set_option maxHeartbeats 4000000 in
set_option maxRecDepth 100000 in
/-- water -/
theorem cM_water (l : Launch) (dC : Nat → ClassId) (dI : Nat → Nat → Nat) (tt : Nat → Nat) (sz : Nat) (ad : Nat → Nat) (cA : Nat → ClassId) (a : Nat → UInt64) (dv : Nat → Nat → UInt64) (ib : Nat → Int32) (ac : Nat → UInt64) (hs : Nat → Int32) (ht : Nat → UInt64) (hc hn : Int32) (rv : Nat → UInt64) (ra : UInt64) (dc nw : Int32) (Tm Ac ts : UInt64) (gt lt : Int32) : Ct l dC dI tt yM_water bM_water 1 (some .double) ({ frames := 0, cells := 0, slots := 0, locals := 0 }) (tM cA) [.ref (ad 0)] (wM ad cA a dv ib ac hs ht hc hn rv ra dc nw Tm Ac ts gt lt) sz (fun A => ctQd dC dI (tM cA) (a 0) (wM ad cA a dv ib ac hs ht hc hn rv ra dc nw Tm Ac ts gt lt) A) := by
  refine ct_of (by decide) (Nat.le_of_ble_eq_true rfl) ?_
  intro p e s m below meth c A ls hx hb hr hts hown hml hlocks hnm hA hS hP hK hD hT hl
  have hl : lv_has ls 1 [(0, .ref (ad 0))] := hl
  refine lv_aload_n hx hb dM_water_0 rfl (lv_at hl 0 rfl) ?_
  refine va_get (D := (dC, dI)) (ci := 0) (v := .ref (ad 1)) (C := "MashEnzymes") (T := F_M) (N := 13) hx hb hts in_M hown hK hP 0 rfl rfl 0 (by decide) (hts _ tw_f_M_9) (fun _ h9 => h9) rfl dM_water_1 ?_
  refine lv_iconst (v := 0) hx hb dM_water_4 (by decide) ?_
  refine ct_dald (k := 0) (v := a 0) hx hb hK hP 1 0 rfl rfl (by unfold vp_in; decide) (rfl) (rfl) dM_water_5 ?_
  exact ct_dret hx hb hr hlocks hP hK hD hS (rfl) dM_water_6

def cvOK (a : Nat → UInt64) (ts : UInt64) (gt lt : Int32) : Prop := ¬ (gt = 0 ∨ lt = 0) ∧ ¬ FP.dcmp (FP.dmul 4638707616191610880 (FP.dadd (a 1) (a 2))) ts = some .gt
set_option maxHeartbeats 4000000 in
set_option maxRecDepth 100000 in
/-- converted -/
theorem cM_converted (l : Launch) (dC : Nat → ClassId) (dI : Nat → Nat → Nat) (tt : Nat → Nat) (sz : Nat) (ad : Nat → Nat) (cA : Nat → ClassId) (a : Nat → UInt64) (dv : Nat → Nat → UInt64) (ib : Nat → Int32) (ac : Nat → UInt64) (hs : Nat → Int32) (ht : Nat → UInt64) (hc hn : Int32) (rv : Nat → UInt64) (ra : UInt64) (dc nw : Int32) (Tm Ac ts : UInt64) (gt lt : Int32) (hok : vf_n64 (FP.dadd (a 1) (a 2)) ∧ vf_n64 (FP.dmul 4638707616191610880 (FP.dadd (a 1) (a 2))) ∧ FP.dcmp (FP.dmul 4638707616191610880 (FP.dadd (a 1) (a 2))) ts ≠ none) : Ct l dC dI tt yM_converted bM_converted 1 (some .boolean) ({ frames := 1, cells := 0, slots := 0, locals := 20 }) (tM cA) [.ref (ad 0)] (wM ad cA a dv ib ac hs ht hc hn rv ra dc nw Tm Ac ts gt lt) sz (fun A => ctQc dC dI (tM cA) (cvOK a ts gt lt) 1 (wM ad cA a dv ib ac hs ht hc hn rv ra dc nw Tm Ac ts gt lt) 0 (wM ad cA a dv ib ac hs ht hc hn rv ra dc nw Tm Ac ts gt lt) A) := by
  refine ct_of (by decide) (Nat.le_of_ble_eq_true rfl) ?_
  intro p e s m below meth c A ls hx hb hr hts hown hml hlocks hnm hA hS hP hK hD hT hl
  have hl : lv_has ls 1 [(0, .ref (ad 0))] := hl
  refine lv_aload_n hx hb dM_converted_0 rfl (lv_at hl 0 rfl) ?_
  refine ct_cvc (As := []) (rest := []) (wr := []) (w1 := (wM ad cA a dv ib ac hs ht hc hn rv ra dc nw Tm Ac ts gt lt)) (w0 := (wM ad cA a dv ib ac hs ht hc hn rv ra dc nw Tm Ac ts gt lt)) ⟨hx, hb, hml, hown, hts⟩ (cM_isEmpty l dC dI tt _ ad cA a dv ib ac hs ht hc hn rv ra dc nw Tm Ac ts gt lt) (gT_V tw_m_M_90 tw_i_yM_isEmpty tw_s_yM_isEmpty tw_I_M tw_c_yM_isEmpty) ⟨rfl, by decide +kernel, by decide +kernel, (by decide +kernel : (parseMethodDescriptor yM_isEmpty.desc).map (fun d => d.parameters.length) = some 0)⟩ ⟨by decide, by decide⟩ (ci := 0) rfl rfl rfl hP hD hK hS hA hT [0, 1, 2, 3, 4, 5, 6, 7, 8, 9, 10, 11, 12, 13, 14, 15, 16, 17] [] [0, 1, 2, 3, 4, 5, 6, 7] (by decide) rfl rfl (by decide) (by decide) rfl hl.1 rfl (Nat.le_of_ble_eq_true rfl) dM_converted_1 ⟨by decide, by decide⟩ (fun c_1 H locs hP hD hS => ?_) (fun c_1 H locs hP hD hS => ?_)
  · have hP : va_P (dC, dI) cls (wM ad cA a dv ib ac hs ht hc hn rv ra dc nw Tm Ac ts gt lt) H := hP
    have hD : va_D A (wM ad cA a dv ib ac hs ht hc hn rv ra dc nw Tm Ac ts gt lt) := hD
    refine lv_if_ne (tgt := 27) hx hb dM_converted_4 (by decide) (fun c_2 => ?_) (fun c_2 => ?_)
    · refine lv_iconst (v := 0) hx hb dM_converted_27 (by decide) ?_
      exact ct_ret0 hx hb hr rfl hlocks hP hK hD hS (fun h => h.1 c_1) rfl dM_converted_28
    · exact (absurd c_2 (by decide))
  · have hP : va_P (dC, dI) cls (wM ad cA a dv ib ac hs ht hc hn rv ra dc nw Tm Ac ts gt lt) H := hP
    have hD : va_D A (wM ad cA a dv ib ac hs ht hc hn rv ra dc nw Tm Ac ts gt lt) := hD
    refine lv_if_ne (tgt := 27) hx hb dM_converted_4 (by decide) (fun c_3 => ?_) (fun c_3 => ?_)
    · exact absurd rfl c_3
    · refine lv_ldc2d hx hb hown (hts _ tw_d_M_103) dM_converted_7 ?_
      refine lv_aload_n hx hb dM_converted_10 rfl (lv_at hl 0 rfl) ?_
      refine ct_cvd (As := []) (rest := [.double 4638707616191610880]) (wr := []) (w1 := (wM ad cA a dv ib ac hs ht hc hn rv ra dc nw Tm Ac ts gt lt)) ⟨hx, hb, hml, hown, hts⟩ (cM_starch l dC dI tt _ ad cA a dv ib ac hs ht hc hn rv ra dc nw Tm Ac ts gt lt hok.1) (gT_V tw_m_M_105 tw_i_yM_starch tw_s_yM_starch tw_I_M tw_c_yM_starch) ⟨rfl, by decide +kernel, by decide +kernel, (by decide +kernel : (parseMethodDescriptor yM_starch.desc).map (fun d => d.parameters.length) = some 0)⟩ ⟨by decide, by decide⟩ (ci := 0) rfl rfl rfl hP hD hK hS hA hT [0, 1, 2, 3, 4, 5, 6, 7, 8, 9, 10, 11, 12, 13, 14, 15, 16, 17] [] [0, 1, 2, 3, 4, 5, 6, 7] (by decide) rfl rfl (by decide) (by decide) rfl hl.1 rfl (Nat.le_of_ble_eq_true rfl) dM_converted_11 ⟨by decide, by decide⟩ (fun H locs hP hD hS => ?_)
      have hP : va_P (dC, dI) cls (wM ad cA a dv ib ac hs ht hc hn rv ra dc nw Tm Ac ts gt lt) H := hP
      have hD : va_D A (wM ad cA a dv ib ac hs ht hc hn rv ra dc nw Tm Ac ts gt lt) := hD
      refine lv_dmul hx hb dM_converted_14 (hok.2.1) ?_
      refine lv_aload_n hx hb dM_converted_15 rfl (lv_at hl 0 rfl) ?_
      refine va_get (D := (dC, dI)) (ci := 0) (v := .double ts) (C := "MashEnzymes") (T := F_M) (N := 13) hx hb hts in_M hown hK hP 0 rfl rfl 10 (by decide) (hts _ tw_f_M_41) (fun _ h9 => h9) rfl dM_converted_16 ?_
      refine lv_dcmp hx hb dM_converted_19 ?_
      refine lv_if_gt (tgt := 27) hx hb dM_converted_20 (by decide) (fun c_4 => ?_) (fun c_4 => ?_)
      · refine lv_iconst (v := 0) hx hb dM_converted_27 (by decide) ?_
        exact ct_ret0 hx hb hr rfl hlocks hP hK hD hS (fun h => h.2 ((cvn_g hok.2.2).mp c_4)) rfl dM_converted_28
      · refine lv_iconst (v := 1) hx hb dM_converted_23 (by decide) ?_
        refine lv_goto (tgt := 28) hx hb dM_converted_24 (by decide) ?_
        exact ct_ret1 hx hb hr rfl hlocks hP hK hD hS ⟨c_1, fun h => c_4 ((cvn_g hok.2.2).mpr h)⟩ rfl dM_converted_28

set_option maxHeartbeats 4000000 in
set_option maxRecDepth 100000 in
/-- enzyme -/
theorem cM_enzyme (l : Launch) (dC : Nat → ClassId) (dI : Nat → Nat → Nat) (tt : Nat → Nat) (sz : Nat) (ad : Nat → Nat) (cA : Nat → ClassId) (a : Nat → UInt64) (dv : Nat → Nat → UInt64) (ib : Nat → Int32) (ac : Nat → UInt64) (hs : Nat → Int32) (ht : Nat → UInt64) (hc hn : Int32) (rv : Nat → UInt64) (ra : UInt64) (dc nw : Int32) (Tm Ac ts : UInt64) (gt lt : Int32) (kind : Int32) (am : UInt64) (hna : nNo am) (hok : ezOK kind am → vf_n64 (FP.dadd (a (9 + kind.toNatClampNeg)) am)) : Ct l dC dI tt yM_enzyme bM_enzyme 5 (some .boolean) ({ frames := 0, cells := 0, slots := 0, locals := 0 }) (tM cA) [.ref (ad 0), .int kind, .double am] (wM ad cA a dv ib ac hs ht hc hn rv ra dc nw Tm Ac ts gt lt) sz (fun A => ctQc dC dI (tM cA) (ezOK kind am) 1 (wM ad cA (vf_upd a (9 + kind.toNatClampNeg) (FP.dadd (a (9 + kind.toNatClampNeg)) am)) dv ib ac hs ht hc hn rv ra dc nw Tm Ac ts gt lt) 0 (wM ad cA a dv ib ac hs ht hc hn rv ra dc nw Tm Ac ts gt lt) A) := by
  refine ct_of (by decide) (Nat.le_of_ble_eq_true rfl) ?_
  intro p e s m below meth c A ls hx hb hr hts hown hml hlocks hnm hA hS hP hK hD hT hl
  have hl : lv_has ls 5 [(0, .ref (ad 0)), (1, .int kind), (2, .double am)] := hl
  refine lv_dload_n hx hb dM_enzyme_0 rfl (lv_at hl 2 rfl) ?_
  refine lv_dconst0 hx hb dM_enzyme_1 ?_
  refine ct_topd (y := 0) rfl ?_
  refine lv_dcmp hx hb dM_enzyme_2 ?_
  refine lv_if_le (tgt := 18) hx hb dM_enzyme_3 (by decide) (fun c_1 => ?_) (fun c_1 => ?_)
  · refine lv_iconst (v := 0) hx hb dM_enzyme_18 (by decide) ?_
    refine lv_istore (lv' := [(4, .int 0), (0, .ref (ad 0)), (1, .int kind), (2, .double am)]) hx hb dM_enzyme_19 hl (by decide) rfl (fun ls hl => ?_)
    refine lv_iload hx hb dM_enzyme_21 (lv_at hl 0 rfl) ?_
    refine lv_if_eq (tgt := 35) hx hb dM_enzyme_23 (by decide) (fun c_2 => ?_) (fun c_2 => ?_)
    · refine lv_iconst (v := 0) hx hb dM_enzyme_35 (by decide) ?_
      exact ct_ret0 hx hb hr rfl hlocks hP hK hD hS (fun h => (cv_l_le _).mp c_1 h.1) rfl dM_enzyme_36
    · exact absurd rfl c_2
  · have h_am0 := (Classical.not_not.mp fun h => c_1 ((cv_l_le _).mpr h) : FP.dcmp am 0 = some .gt)
    refine lv_dload_n hx hb dM_enzyme_6 rfl (lv_at hl 2 rfl) ?_
    refine lv_ldc2d hx hb hown (hts _ tw_d_M_39) dM_enzyme_7 ?_
    refine lv_dcmp hx hb dM_enzyme_10 ?_
    refine lv_if_gt (tgt := 18) hx hb dM_enzyme_11 (by decide) (fun c_3 => ?_) (fun c_3 => ?_)
    · refine lv_iconst (v := 0) hx hb dM_enzyme_18 (by decide) ?_
      refine lv_istore (lv' := [(4, .int 0), (0, .ref (ad 0)), (1, .int kind), (2, .double am)]) hx hb dM_enzyme_19 hl (by decide) rfl (fun ls hl => ?_)
      refine lv_iload hx hb dM_enzyme_21 (lv_at hl 0 rfl) ?_
      refine lv_if_eq (tgt := 35) hx hb dM_enzyme_23 (by decide) (fun c_4 => ?_) (fun c_4 => ?_)
      · refine lv_iconst (v := 0) hx hb dM_enzyme_35 (by decide) ?_
        exact ct_ret0 hx hb hr rfl hlocks hP hK hD hS (fun h => h.2.1 ((cvn_g (hna _ (by decide))).mp c_3)) rfl dM_enzyme_36
      · exact absurd rfl c_4
    · have h_am1 := (fun h => c_3 ((cvn_g (hna _ (by decide))).mpr h) : ¬ FP.dcmp am 4652007308841189376 = some .gt)
      refine lv_iconst (v := 1) hx hb dM_enzyme_14 (by decide) ?_
      refine lv_goto (tgt := 19) hx hb dM_enzyme_15 (by decide) ?_
      refine lv_istore (lv' := [(4, .int 1), (0, .ref (ad 0)), (1, .int kind), (2, .double am)]) hx hb dM_enzyme_19 hl (by decide) rfl (fun ls hl => ?_)
      refine lv_iload hx hb dM_enzyme_21 (lv_at hl 0 rfl) ?_
      refine lv_if_eq (tgt := 35) hx hb dM_enzyme_23 (by decide) (fun c_5 => ?_) (fun c_5 => ?_)
      · exact (absurd c_5 (by decide))
      · refine lv_iload_n hx hb dM_enzyme_26 rfl (lv_at hl 2 rfl) ?_
        refine lv_if_lt (tgt := 35) hx hb dM_enzyme_27 (by decide) (fun c_6 => ?_) (fun c_6 => ?_)
        · refine lv_iconst (v := 0) hx hb dM_enzyme_35 (by decide) ?_
          exact ct_ret0 hx hb hr rfl hlocks hP hK hD hS (fun h => Int32.not_lt.mpr h.2.2.1 c_6) rfl dM_enzyme_36
        · have h_k0 := (c_6 : ¬ kind < 0)
          refine lv_iload_n hx hb dM_enzyme_30 rfl (lv_at hl 2 rfl) ?_
          refine lv_iconst (v := 4) hx hb dM_enzyme_31 (by decide) ?_
          refine lv_icmp_lt (tgt := 37) hx hb dM_enzyme_32 (by decide) (fun c_7 => ?_) (fun c_7 => ?_)
          · have h_k1 := (c_7 : kind < 4)
            have hz : ezOK kind am := ⟨h_am0, h_am1, Int32.not_lt.mp h_k0, h_k1⟩
            obtain ⟨k, hk, rfl⟩ := nI_of (x := kind) h_k0
            have hk4 : k < 4 := (nI_ltI hk (by decide)).mp h_k1
            have hok9 := hok hz
            rw [nI_clamp hk] at hok9
            rw [nI_clamp hk]
            refine lv_aload_n hx hb dM_enzyme_37 rfl (lv_at hl 1 rfl) ?_
            refine va_get (D := (dC, dI)) (ci := 0) (v := .ref (ad 1)) (C := "MashEnzymes") (T := F_M) (N := 13) hx hb hts in_M hown hK hP 0 rfl rfl 0 (by decide) (hts _ tw_f_M_9) (fun _ h9 => h9) rfl dM_enzyme_38 ?_
            refine lv_bipush (v := 9) hx hb dM_enzyme_41 (by decide) ?_
            refine lv_iload_n hx hb dM_enzyme_43 rfl (lv_at hl 2 rfl) ?_
            refine lv_iadd hx hb dM_enzyme_44 ?_
            refine ct_topi (y := nI (9 + k)) (by rw [show (9 : Int32) = nI 9 from rfl, nI_add]) ?_
            refine lv_aload_n hx hb dM_enzyme_45 rfl (lv_at hl 1 rfl) ?_
            refine va_get (D := (dC, dI)) (ci := 0) (v := .ref (ad 1)) (C := "MashEnzymes") (T := F_M) (N := 13) hx hb hts in_M hown hK hP 0 rfl rfl 0 (by decide) (hts _ tw_f_M_9) (fun _ h9 => h9) rfl dM_enzyme_46 ?_
            refine lv_bipush (v := 9) hx hb dM_enzyme_49 (by decide) ?_
            refine lv_iload_n hx hb dM_enzyme_51 rfl (lv_at hl 2 rfl) ?_
            refine lv_iadd hx hb dM_enzyme_52 ?_
            refine ct_topi (y := nI (9 + k)) (by rw [show (9 : Int32) = nI 9 from rfl, nI_add]) ?_
            refine ct_dald (k := (9 + k)) (v := a (9 + k)) hx hb hK hP 1 0 rfl rfl (vp_in_nI (by omega) (by decide)) (nI_clamp (by omega)) (rfl) dM_enzyme_53 ?_
            refine lv_dload_n hx hb dM_enzyme_54 rfl (lv_at hl 3 rfl) ?_
            refine lv_dadd hx hb dM_enzyme_55 (hok9) ?_
            refine ct_dast (k := (9 + k)) (w1 := (wM ad cA (vf_upd a (9 + k) (FP.dadd (a (9 + k)) am)) dv ib ac hs ht hc hn rv ra dc nw Tm Ac ts gt lt)) hx hb hK hP hD hS 1 0 rfl rfl (vp_in_nI (by omega) (by decide)) (nI_clamp (by omega)) (rfl) dM_enzyme_56 (fun H locs hP hD hS => ?_)
            refine lv_iconst (v := 1) hx hb dM_enzyme_57 (by decide) ?_
            exact ct_ret1 hx hb hr rfl hlocks hP hK hD hS hz rfl dM_enzyme_58
          · refine lv_iconst (v := 0) hx hb dM_enzyme_35 (by decide) ?_
            exact ct_ret0 hx hb hr rfl hlocks hP hK hD hS (fun h => c_7 h.2.2.2) rfl dM_enzyme_36

set_option maxHeartbeats 4000000 in
set_option maxRecDepth 100000 in
/-- step -/
theorem cM_step (l : Launch) (dC : Nat → ClassId) (dI : Nat → Nat → Nat) (tt : Nat → Nat) (sz : Nat) (ad : Nat → Nat) (cA : Nat → ClassId) (a : Nat → UInt64) (dv : Nat → Nat → UInt64) (ib : Nat → Int32) (ac : Nat → UInt64) (hs : Nat → Int32) (ht : Nat → UInt64) (c0 : Nat) (hn : Int32) (rv : Nat → UInt64) (ra : UInt64) (dc nw : Int32) (Tm Ac ts : UInt64) (gt lt : Int32) (sec : Int32) (d : UInt64) (hc32 : c0 ≤ 32) : Ct l dC dI tt yM_step bM_step 4 (some .boolean) ({ frames := 1, cells := 0, slots := 0, locals := 23 }) (tM cA) [.ref (ad 0), .int sec, .double d] (wM ad cA a dv ib ac hs ht (nI c0) hn rv ra dc nw Tm Ac ts gt lt) sz (fun A => ctQc dC dI (tM cA) (stOK hs c0 nw sec d) 1 (wM ad cA a dv ib ac (upd hs c0 sec) (vf_upd ht c0 d) (nI (c0 + 1)) hn rv ra dc nw Tm Ac ts gt lt) 0 (wM ad cA a dv ib ac hs ht (nI c0) hn rv ra dc nw Tm Ac ts gt lt) A) := by
  refine ct_of (by decide) (Nat.le_of_ble_eq_true rfl) ?_
  intro p e s m below meth c A ls hx hb hr hts hown hml hlocks hnm hA hS hP hK hD hT hl
  have hl : lv_has ls 4 [(0, .ref (ad 0)), (1, .int sec), (2, .double d)] := hl
  refine lv_iload_n hx hb dM_step_0 rfl (lv_at hl 1 rfl) ?_
  refine lv_aload_n hx hb dM_step_1 rfl (lv_at hl 0 rfl) ?_
  refine va_get (D := (dC, dI)) (ci := 0) (v := .int nw) (C := "MashEnzymes") (T := F_M) (N := 13) hx hb hts in_M hown hK hP 0 rfl rfl 7 (by decide) (hts _ tw_f_M_81) (fun _ h9 => h9) rfl dM_step_2 ?_
  refine lv_icmp_le (tgt := 21) hx hb dM_step_5 (by decide) (fun c_1 => ?_) (fun c_1 => ?_)
  · refine lv_iconst (v := 0) hx hb dM_step_21 (by decide) ?_
    exact ct_ret0 hx hb hr rfl hlocks hP hK hD hS (fun h => Int32.not_le.mpr h.1 c_1) rfl dM_step_22
  · have h_1 := (Int32.not_le.mp c_1 : nw < sec)
    refine lv_iload_n hx hb dM_step_8 rfl (lv_at hl 1 rfl) ?_
    refine lv_ldc hx hb hown (hts _ tw_k_M_85) dM_step_9 ?_
    refine lv_icmp_gt (tgt := 21) hx hb dM_step_11 (by decide) (fun c_2 => ?_) (fun c_2 => ?_)
    · refine lv_iconst (v := 0) hx hb dM_step_21 (by decide) ?_
      exact ct_ret0 hx hb hr rfl hlocks hP hK hD hS (fun h => Int32.not_lt.mpr h.2.1 c_2) rfl dM_step_22
    · have h_2 := (Int32.not_lt.mp c_2 : sec ≤ 1000000)
      refine lv_dload_n hx hb dM_step_14 rfl (lv_at hl 2 rfl) ?_
      refine ct_csc (As := [.double d]) (rest := []) (wr := (wM ad cA a dv ib ac hs ht (nI c0) hn rv ra dc nw Tm Ac ts gt lt)) ⟨hx, hb, hml, hown, hts⟩ (cM_isTemperature l dC dI tt _ d) (gT_S tw_m_M_62 tw_st_yM_isTemperature tw_I_M tw_c_yM_isTemperature) ⟨by decide +kernel, by decide +kernel, (by decide +kernel : (parseMethodDescriptor yM_isTemperature.desc).map (fun d => d.parameters.length) = some 1)⟩ ⟨by decide, by decide⟩ hP hD hK hS hA hT [0, 1, 2, 3, 4, 5, 6, 7, 8, 9, 10, 11, 12, 13, 14, 15, 16, 17] rfl (by decide) hl.1 rfl (Nat.le_of_ble_eq_true rfl) dM_step_15 ⟨by decide, by decide⟩ (fun c_3 H locs hP hD hS => ?_) (fun c_3 H locs hP hD hS => ?_)
      · have hP : va_P (dC, dI) cls (wM ad cA a dv ib ac hs ht (nI c0) hn rv ra dc nw Tm Ac ts gt lt) H := hP
        have hD : va_D A (wM ad cA a dv ib ac hs ht (nI c0) hn rv ra dc nw Tm Ac ts gt lt) := hD
        refine lv_if_ne (tgt := 23) hx hb dM_step_18 (by decide) (fun c_4 => ?_) (fun c_4 => ?_)
        · refine lv_aload_n hx hb dM_step_23 rfl (lv_at hl 0 rfl) ?_
          refine va_get (D := (dC, dI)) (ci := 0) (v := .ref (ad 5)) (C := "MashEnzymes") (T := F_M) (N := 13) hx hb hts in_M hown hK hP 0 rfl rfl 4 (by decide) (hts _ tw_f_M_28) (fun _ h9 => h9) rfl dM_step_24 ?_
          refine lv_iload_n hx hb dM_step_27 rfl (lv_at hl 1 rfl) ?_
          refine lv_dload_n hx hb dM_step_28 rfl (lv_at hl 2 rfl) ?_
          refine ct_cvc (As := [.int sec, .double d]) (rest := []) (wr := [((ad 0), .inr (0, [.ref (ad 1), .ref (ad 2), .ref (ad 3), .ref (ad 4), .ref (ad 5), .ref (ad 8), .int dc, .int nw, .double Tm, .double Ac, .double ts, .int gt, .int lt])), ((ad 1), .inl (cA 0, 13, .inr (.inr (.inr (.inl a))))), ((ad 2), .inl (cA 1, 8, .inr (.inr (.inr (.inr (fun i => if i < 8 then some (ad (i + 10)) else none)))))), ((ad 3), .inl (cA 2, 8, .inl ib)), ((ad 4), .inl (cA 3, 4, .inr (.inr (.inr (.inl ac))))), ((ad 8), .inr (2, [.ref (ad 9), .double ra])), ((ad 9), .inl (cA 6, 9, .inr (.inr (.inr (.inl rv))))), ((ad 10), .inl (cA 7, 13, .inr (.inr (.inr (.inl (dv 0)))))), ((ad 11), .inl (cA 7, 13, .inr (.inr (.inr (.inl (dv 1)))))), ((ad 12), .inl (cA 7, 13, .inr (.inr (.inr (.inl (dv 2)))))), ((ad 13), .inl (cA 7, 13, .inr (.inr (.inr (.inl (dv 3)))))), ((ad 14), .inl (cA 7, 13, .inr (.inr (.inr (.inl (dv 4)))))), ((ad 15), .inl (cA 7, 13, .inr (.inr (.inr (.inl (dv 5)))))), ((ad 16), .inl (cA 7, 13, .inr (.inr (.inr (.inl (dv 6)))))), ((ad 17), .inl (cA 7, 13, .inr (.inr (.inr (.inl (dv 7))))))]) (w1 := (wH (ad 5) (ad 6) (ad 7) (cA 4) (cA 5) (upd hs c0 sec) (vf_upd ht c0 d) (nI (c0 + 1)) hn)) (w0 := (wH (ad 5) (ad 6) (ad 7) (cA 4) (cA 5) hs ht (nI c0) hn)) ⟨hx, hb, hml, hown, hts⟩ (cH_append l dC dI tt _ (ad 5) (ad 6) (ad 7) (cA 4) (cA 5) hs ht c0 hn sec d hc32) (gT_V tw_m_M_86 tw_i_yH_append tw_s_yH_append tw_I_H tw_c_yH_append) ⟨rfl, by decide +kernel, by decide +kernel, (by decide +kernel : (parseMethodDescriptor yH_append.desc).map (fun d => d.parameters.length) = some 2)⟩ ⟨by decide, by decide⟩ (ci := 1) rfl rfl rfl hP hD hK hS hA hT [5, 6, 7] [0, 1, 2, 3, 4, 8, 9, 10, 11, 12, 13, 14, 15, 16, 17] [4, 5] (by decide) rfl rfl (by decide) (by decide) rfl hl.1 rfl (Nat.le_of_ble_eq_true rfl) dM_step_29 ⟨by decide, by decide⟩ (fun c_5 H locs hP hD hS => ?_) (fun c_5 H locs hP hD hS => ?_)
          · have hP := hP.sub (ws' := (wM ad cA a dv ib ac (upd hs c0 sec) (vf_upd ht c0 d) (nI (c0 + 1)) hn rv ra dc nw Tm Ac ts gt lt)) [0, 1, 2, 3, 4, 15, 16, 17, 5, 6, 7, 8, 9, 10, 11, 12, 13, 14] rfl
            have hD := hD.sub (ws' := (wM ad cA a dv ib ac (upd hs c0 sec) (vf_upd ht c0 d) (nI (c0 + 1)) hn rv ra dc nw Tm Ac ts gt lt)) [0, 1, 2, 3, 4, 15, 16, 17, 5, 6, 7, 8, 9, 10, 11, 12, 13, 14] (by decide) rfl
            exact ct_ret1 hx hb hr rfl hlocks hP hK hD hS ⟨h_1, h_2, c_3, c_5⟩ rfl dM_step_32
          · have hP := hP.sub (ws' := (wM ad cA a dv ib ac hs ht (nI c0) hn rv ra dc nw Tm Ac ts gt lt)) [0, 1, 2, 3, 4, 15, 16, 17, 5, 6, 7, 8, 9, 10, 11, 12, 13, 14] rfl
            have hD := hD.sub (ws' := (wM ad cA a dv ib ac hs ht (nI c0) hn rv ra dc nw Tm Ac ts gt lt)) [0, 1, 2, 3, 4, 15, 16, 17, 5, 6, 7, 8, 9, 10, 11, 12, 13, 14] (by decide) rfl
            exact ct_ret0 hx hb hr rfl hlocks hP hK hD hS (fun h => c_5 h.2.2.2) rfl dM_step_32
        · exact (absurd c_4 (by decide))
      · have hP : va_P (dC, dI) cls (wM ad cA a dv ib ac hs ht (nI c0) hn rv ra dc nw Tm Ac ts gt lt) H := hP
        have hD : va_D A (wM ad cA a dv ib ac hs ht (nI c0) hn rv ra dc nw Tm Ac ts gt lt) := hD
        refine lv_if_ne (tgt := 23) hx hb dM_step_18 (by decide) (fun c_6 => ?_) (fun c_6 => ?_)
        · exact absurd rfl c_6
        · refine lv_iconst (v := 0) hx hb dM_step_21 (by decide) ?_
          exact ct_ret0 hx hb hr rfl hlocks hP hK hD hS (fun h => c_3 h.2.2.1) rfl dM_step_22

set_option maxHeartbeats 4000000 in
set_option maxRecDepth 100000 in
/-- liquor -/
theorem cM_liquor (l : Launch) (dC : Nat → ClassId) (dI : Nat → Nat → Nat) (tt : Nat → Nat) (sz : Nat) (ad : Nat → Nat) (cA : Nat → ClassId) (a : Nat → UInt64) (dv : Nat → Nat → UInt64) (ib : Nat → Int32) (ac : Nat → UInt64) (hs : Nat → Int32) (ht : Nat → UInt64) (hc hn : Int32) (rv : Nat → UInt64) (ra : UInt64) (dc nw : Int32) (Tm Ac ts : UInt64) (gt lt : Int32) (li d ac9 : UInt64) (hnl : nNo li) (hnc : nNo ac9) (hok : lqOK li d ac9 → okM Tm (a 0) d li ∧ okM Ac (a 0) ac9 li) : Ct l dC dI tt yM_liquor bM_liquor 10 (some .boolean) ({ frames := 1, cells := 0, slots := 0, locals := 29 }) (tM cA) [.ref (ad 0), .double li, .double d, .double ac9] (wM ad cA a dv ib ac hs ht hc hn rv ra dc nw Tm Ac ts gt lt) sz (fun A => ctQc dC dI (tM cA) (lqOK li d ac9) 1 (wM ad cA (vf_upd a 0 (FP.dadd (a 0) li)) dv ib ac hs ht hc hn rv ra dc nw (mixD Tm (a 0) d li) (mixD Ac (a 0) ac9 li) ts gt 1) 0 (wM ad cA a dv ib ac hs ht hc hn rv ra dc nw Tm Ac ts gt lt) A) := by
  refine ct_of (by decide) (Nat.le_of_ble_eq_true rfl) ?_
  intro p e s m below meth c A ls hx hb hr hts hown hml hlocks hnm hA hS hP hK hD hT hl
  have hl : lv_has ls 10 [(0, .ref (ad 0)), (1, .double li), (3, .double d), (5, .double ac9)] := hl
  refine lv_dload_n hx hb dM_liquor_0 rfl (lv_at hl 1 rfl) ?_
  refine lv_dconst0 hx hb dM_liquor_1 ?_
  refine ct_topd (y := 0) rfl ?_
  refine lv_dcmp hx hb dM_liquor_2 ?_
  refine lv_if_le (tgt := 43) hx hb dM_liquor_3 (by decide) (fun c_1 => ?_) (fun c_1 => ?_)
  · refine lv_iconst (v := 0) hx hb dM_liquor_43 (by decide) ?_
    refine lv_istore (lv' := [(7, .int 0), (0, .ref (ad 0)), (1, .double li), (3, .double d), (5, .double ac9)]) hx hb dM_liquor_44 hl (by decide) rfl (fun ls hl => ?_)
    refine lv_iload hx hb dM_liquor_46 (lv_at hl 0 rfl) ?_
    refine lv_if_ne (tgt := 53) hx hb dM_liquor_48 (by decide) (fun c_2 => ?_) (fun c_2 => ?_)
    · exact absurd rfl c_2
    · refine lv_iconst (v := 0) hx hb dM_liquor_51 (by decide) ?_
      exact ct_ret0 hx hb hr rfl hlocks hP hK hD hS (fun h => (cv_l_le _).mp c_1 h.1) rfl dM_liquor_52
  · have h_li0 := (Classical.not_not.mp fun h => c_1 ((cv_l_le _).mpr h) : FP.dcmp li 0 = some .gt)
    refine lv_dload_n hx hb dM_liquor_6 rfl (lv_at hl 1 rfl) ?_
    refine lv_ldc2d hx hb hown (hts _ tw_d_M_60) dM_liquor_7 ?_
    refine lv_dcmp hx hb dM_liquor_10 ?_
    refine lv_if_gt (tgt := 43) hx hb dM_liquor_11 (by decide) (fun c_3 => ?_) (fun c_3 => ?_)
    · refine lv_iconst (v := 0) hx hb dM_liquor_43 (by decide) ?_
      refine lv_istore (lv' := [(7, .int 0), (0, .ref (ad 0)), (1, .double li), (3, .double d), (5, .double ac9)]) hx hb dM_liquor_44 hl (by decide) rfl (fun ls hl => ?_)
      refine lv_iload hx hb dM_liquor_46 (lv_at hl 0 rfl) ?_
      refine lv_if_ne (tgt := 53) hx hb dM_liquor_48 (by decide) (fun c_4 => ?_) (fun c_4 => ?_)
      · exact absurd rfl c_4
      · refine lv_iconst (v := 0) hx hb dM_liquor_51 (by decide) ?_
        exact ct_ret0 hx hb hr rfl hlocks hP hK hD hS (fun h => h.2.1 ((cvn_g (hnl _ (by decide))).mp c_3)) rfl dM_liquor_52
    · have h_li1 := (fun h => c_3 ((cvn_g (hnl _ (by decide))).mpr h) : ¬ FP.dcmp li 4666723172467343360 = some .gt)
      refine lv_dload_n hx hb dM_liquor_14 rfl (lv_at hl 2 rfl) ?_
      refine ct_csc (As := [.double d]) (rest := []) (wr := (wM ad cA a dv ib ac hs ht hc hn rv ra dc nw Tm Ac ts gt lt)) ⟨hx, hb, hml, hown, hts⟩ (cM_isTemperature l dC dI tt _ d) (gT_S tw_m_M_62 tw_st_yM_isTemperature tw_I_M tw_c_yM_isTemperature) ⟨by decide +kernel, by decide +kernel, (by decide +kernel : (parseMethodDescriptor yM_isTemperature.desc).map (fun d => d.parameters.length) = some 1)⟩ ⟨by decide, by decide⟩ hP hD hK hS hA hT [0, 1, 2, 3, 4, 5, 6, 7, 8, 9, 10, 11, 12, 13, 14, 15, 16, 17] rfl (by decide) hl.1 rfl (Nat.le_of_ble_eq_true rfl) dM_liquor_15 ⟨by decide, by decide⟩ (fun c_5 H locs hP hD hS => ?_) (fun c_5 H locs hP hD hS => ?_)
      · have hP : va_P (dC, dI) cls (wM ad cA a dv ib ac hs ht hc hn rv ra dc nw Tm Ac ts gt lt) H := hP
        have hD : va_D A (wM ad cA a dv ib ac hs ht hc hn rv ra dc nw Tm Ac ts gt lt) := hD
        refine lv_if_eq (tgt := 43) hx hb dM_liquor_18 (by decide) (fun c_6 => ?_) (fun c_6 => ?_)
        · exact (absurd c_6 (by decide))
        · have h_d := c_5
          refine lv_dload hx hb dM_liquor_21 (lv_at hl 3 rfl) ?_
          refine lv_ldc2d hx hb hown (hts _ tw_d_M_66) dM_liquor_23 ?_
          refine lv_dcmp hx hb dM_liquor_26 ?_
          refine lv_if_lt (tgt := 43) hx hb dM_liquor_27 (by decide) (fun c_7 => ?_) (fun c_7 => ?_)
          · refine lv_iconst (v := 0) hx hb dM_liquor_43 (by decide) ?_
            refine lv_istore (lv' := [(7, .int 0), (0, .ref (ad 0)), (1, .double li), (3, .double d), (5, .double ac9)]) hx hb dM_liquor_44 hl (by decide) rfl (fun ls hl => ?_)
            refine lv_iload hx hb dM_liquor_46 (lv_at hl 0 rfl) ?_
            refine lv_if_ne (tgt := 53) hx hb dM_liquor_48 (by decide) (fun c_8 => ?_) (fun c_8 => ?_)
            · exact absurd rfl c_8
            · refine lv_iconst (v := 0) hx hb dM_liquor_51 (by decide) ?_
              exact ct_ret0 hx hb hr rfl hlocks hP hK hD hS (fun h => h.2.2.2.1 ((cvn_l (hnc _ (by decide))).mp c_7)) rfl dM_liquor_52
          · have h_a1 := (fun h => c_7 ((cvn_l (hnc _ (by decide))).mpr h) : ¬ FP.dcmp ac9 4613937818241073152 = some .lt)
            refine lv_dload hx hb dM_liquor_30 (lv_at hl 3 rfl) ?_
            refine lv_ldc2d hx hb hown (hts _ tw_d_M_54) dM_liquor_32 ?_
            refine lv_dcmp hx hb dM_liquor_35 ?_
            refine lv_if_gt (tgt := 43) hx hb dM_liquor_36 (by decide) (fun c_9 => ?_) (fun c_9 => ?_)
            · refine lv_iconst (v := 0) hx hb dM_liquor_43 (by decide) ?_
              refine lv_istore (lv' := [(7, .int 0), (0, .ref (ad 0)), (1, .double li), (3, .double d), (5, .double ac9)]) hx hb dM_liquor_44 hl (by decide) rfl (fun ls hl => ?_)
              refine lv_iload hx hb dM_liquor_46 (lv_at hl 0 rfl) ?_
              refine lv_if_ne (tgt := 53) hx hb dM_liquor_48 (by decide) (fun c_10 => ?_) (fun c_10 => ?_)
              · exact absurd rfl c_10
              · refine lv_iconst (v := 0) hx hb dM_liquor_51 (by decide) ?_
                exact ct_ret0 hx hb hr rfl hlocks hP hK hD hS (fun h => h.2.2.2.2 ((cvn_g (hnc _ (by decide))).mp c_9)) rfl dM_liquor_52
            · have h_a2 := (fun h => c_9 ((cvn_g (hnc _ (by decide))).mpr h) : ¬ FP.dcmp ac9 4620693217682128896 = some .gt)
              refine lv_iconst (v := 1) hx hb dM_liquor_39 (by decide) ?_
              refine lv_goto (tgt := 44) hx hb dM_liquor_40 (by decide) ?_
              refine lv_istore (lv' := [(7, .int 1), (0, .ref (ad 0)), (1, .double li), (3, .double d), (5, .double ac9)]) hx hb dM_liquor_44 hl (by decide) rfl (fun ls hl => ?_)
              refine lv_iload hx hb dM_liquor_46 (lv_at hl 0 rfl) ?_
              refine lv_if_ne (tgt := 53) hx hb dM_liquor_48 (by decide) (fun c_11 => ?_) (fun c_11 => ?_)
              · have hlq : lqOK li d ac9 := ⟨h_li0, h_li1, h_d, h_a1, h_a2⟩
                have hok9 := hok hlq
                refine lv_aload_n hx hb dM_liquor_53 rfl (lv_at hl 1 rfl) ?_
                refine va_get (D := (dC, dI)) (ci := 0) (v := .ref (ad 1)) (C := "MashEnzymes") (T := F_M) (N := 13) hx hb hts in_M hown hK hP 0 rfl rfl 0 (by decide) (hts _ tw_f_M_9) (fun _ h9 => h9) rfl dM_liquor_54 ?_
                refine lv_iconst (v := 0) hx hb dM_liquor_57 (by decide) ?_
                refine ct_dald (k := 0) (v := a 0) hx hb hK hP 1 0 rfl rfl (by unfold vp_in; decide) (rfl) (rfl) dM_liquor_58 ?_
                refine lv_dstore (lv' := [(8, .double (a 0)), (7, .int 1), (0, .ref (ad 0)), (1, .double li), (3, .double d), (5, .double ac9)]) hx hb dM_liquor_59 hl (by decide) rfl (fun ls hl => ?_)
                refine lv_aload_n hx hb dM_liquor_61 rfl (lv_at hl 2 rfl) ?_
                refine lv_aload_n hx hb dM_liquor_62 rfl (lv_at hl 2 rfl) ?_
                refine va_get (D := (dC, dI)) (ci := 0) (v := .double Tm) (C := "MashEnzymes") (T := F_M) (N := 13) hx hb hts in_M hown hK hP 0 rfl rfl 8 (by decide) (hts _ tw_f_M_68) (fun _ h9 => h9) rfl dM_liquor_63 ?_
                refine lv_dload hx hb dM_liquor_66 (lv_at hl 0 rfl) ?_
                refine lv_dload_n hx hb dM_liquor_68 rfl (lv_at hl 4 rfl) ?_
                refine lv_dload_n hx hb dM_liquor_69 rfl (lv_at hl 3 rfl) ?_
                refine ct_csd (As := [.double Tm, .double (a 0), .double d, .double li]) (rest := [.ref (ad 0)]) (wr := (wM ad cA a dv ib ac hs ht hc hn rv ra dc nw Tm Ac ts gt lt)) ⟨hx, hb, hml, hown, hts⟩ (cM_mixed l dC dI tt _ Tm (a 0) d li hok9.1) (gT_S tw_m_M_71 tw_st_yM_mixed tw_I_M tw_c_yM_mixed) ⟨by decide +kernel, by decide +kernel, (by decide +kernel : (parseMethodDescriptor yM_mixed.desc).map (fun d => d.parameters.length) = some 4)⟩ ⟨by decide, by decide⟩ hP hD hK hS hA hT [0, 1, 2, 3, 4, 5, 6, 7, 8, 9, 10, 11, 12, 13, 14, 15, 16, 17] rfl (by decide) hl.1 rfl (Nat.le_of_ble_eq_true rfl) dM_liquor_70 ⟨by decide, by decide⟩ (fun H locs hP hD hS => ?_)
                refine va_put (D := (dC, dI)) (ci := 0) (v := .double (mixD Tm (a 0) d li)) (ty := .double) (C := "MashEnzymes") (T := F_M) (N := 13) hx hb hts in_M t_M t_M_ok n_M hown hK hP hD hS 0 rfl rfl 8 (by decide) (hts _ tw_f_M_68) (fun _ h9 => h9) rfl (by decide +kernel) rfl rfl (Nat.le_of_ble_eq_true rfl) dM_liquor_73 (fun H locs hP hD hS => ?_)
                have hP : va_P (dC, dI) cls (wM ad cA a dv ib ac hs ht hc hn rv ra dc nw (mixD Tm (a 0) d li) Ac ts gt lt) H := hP
                have hD : va_D A (wM ad cA a dv ib ac hs ht hc hn rv ra dc nw (mixD Tm (a 0) d li) Ac ts gt lt) := hD
                refine lv_aload_n hx hb dM_liquor_76 rfl (lv_at hl 2 rfl) ?_
                refine lv_aload_n hx hb dM_liquor_77 rfl (lv_at hl 2 rfl) ?_
                refine va_get (D := (dC, dI)) (ci := 0) (v := .double Ac) (C := "MashEnzymes") (T := F_M) (N := 13) hx hb hts in_M hown hK hP 0 rfl rfl 9 (by decide) (hts _ tw_f_M_75) (fun _ h9 => h9) rfl dM_liquor_78 ?_
                refine lv_dload hx hb dM_liquor_81 (lv_at hl 0 rfl) ?_
                refine lv_dload hx hb dM_liquor_83 (lv_at hl 5 rfl) ?_
                refine lv_dload_n hx hb dM_liquor_85 rfl (lv_at hl 3 rfl) ?_
                refine ct_csd (As := [.double Ac, .double (a 0), .double ac9, .double li]) (rest := [.ref (ad 0)]) (wr := (wM ad cA a dv ib ac hs ht hc hn rv ra dc nw (mixD Tm (a 0) d li) Ac ts gt lt)) ⟨hx, hb, hml, hown, hts⟩ (cM_mixed l dC dI tt _ Ac (a 0) ac9 li hok9.2) (gT_S tw_m_M_71 tw_st_yM_mixed tw_I_M tw_c_yM_mixed) ⟨by decide +kernel, by decide +kernel, (by decide +kernel : (parseMethodDescriptor yM_mixed.desc).map (fun d => d.parameters.length) = some 4)⟩ ⟨by decide, by decide⟩ hP hD hK hS hA hT [0, 1, 2, 3, 4, 5, 6, 7, 8, 9, 10, 11, 12, 13, 14, 15, 16, 17] rfl (by decide) hl.1 rfl (Nat.le_of_ble_eq_true rfl) dM_liquor_86 ⟨by decide, by decide⟩ (fun H locs hP hD hS => ?_)
                refine va_put (D := (dC, dI)) (ci := 0) (v := .double (mixD Ac (a 0) ac9 li)) (ty := .double) (C := "MashEnzymes") (T := F_M) (N := 13) hx hb hts in_M t_M t_M_ok n_M hown hK hP hD hS 0 rfl rfl 9 (by decide) (hts _ tw_f_M_75) (fun _ h9 => h9) rfl (by decide +kernel) rfl rfl (Nat.le_of_ble_eq_true rfl) dM_liquor_89 (fun H locs hP hD hS => ?_)
                have hP : va_P (dC, dI) cls (wM ad cA a dv ib ac hs ht hc hn rv ra dc nw (mixD Tm (a 0) d li) (mixD Ac (a 0) ac9 li) ts gt lt) H := hP
                have hD : va_D A (wM ad cA a dv ib ac hs ht hc hn rv ra dc nw (mixD Tm (a 0) d li) (mixD Ac (a 0) ac9 li) ts gt lt) := hD
                refine lv_aload_n hx hb dM_liquor_92 rfl (lv_at hl 2 rfl) ?_
                refine va_get (D := (dC, dI)) (ci := 0) (v := .ref (ad 1)) (C := "MashEnzymes") (T := F_M) (N := 13) hx hb hts in_M hown hK hP 0 rfl rfl 0 (by decide) (hts _ tw_f_M_9) (fun _ h9 => h9) rfl dM_liquor_93 ?_
                refine lv_iconst (v := 0) hx hb dM_liquor_96 (by decide) ?_
                refine lv_dload hx hb dM_liquor_97 (lv_at hl 0 rfl) ?_
                refine lv_dload_n hx hb dM_liquor_99 rfl (lv_at hl 3 rfl) ?_
                refine lv_dadd hx hb dM_liquor_100 (hok9.1.1) ?_
                refine ct_dast (k := 0) (w1 := (wM ad cA (vf_upd a 0 (FP.dadd (a 0) li)) dv ib ac hs ht hc hn rv ra dc nw (mixD Tm (a 0) d li) (mixD Ac (a 0) ac9 li) ts gt lt)) hx hb hK hP hD hS 1 0 rfl rfl (by unfold vp_in; decide) (rfl) (rfl) dM_liquor_101 (fun H locs hP hD hS => ?_)
                refine lv_aload_n hx hb dM_liquor_102 rfl (lv_at hl 2 rfl) ?_
                refine lv_iconst (v := 1) hx hb dM_liquor_103 (by decide) ?_
                refine va_put (D := (dC, dI)) (ci := 0) (v := .int 1) (ty := .boolean) (C := "MashEnzymes") (T := F_M) (N := 13) hx hb hts in_M t_M t_M_ok n_M hown hK hP hD hS 0 rfl rfl 12 (by decide) (hts _ tw_f_M_78) (fun _ h9 => h9) rfl (by decide +kernel) rfl rfl (Nat.le_of_ble_eq_true rfl) dM_liquor_104 (fun H locs hP hD hS => ?_)
                have hP : va_P (dC, dI) cls (wM ad cA (vf_upd a 0 (FP.dadd (a 0) li)) dv ib ac hs ht hc hn rv ra dc nw (mixD Tm (a 0) d li) (mixD Ac (a 0) ac9 li) ts gt 1) H := hP
                have hD : va_D A (wM ad cA (vf_upd a 0 (FP.dadd (a 0) li)) dv ib ac hs ht hc hn rv ra dc nw (mixD Tm (a 0) d li) (mixD Ac (a 0) ac9 li) ts gt 1) := hD
                refine lv_iconst (v := 1) hx hb dM_liquor_107 (by decide) ?_
                exact ct_ret1 hx hb hr rfl hlocks hP hK hD hS hlq rfl dM_liquor_108
              · exact (absurd c_11 (by decide))
      · have hP : va_P (dC, dI) cls (wM ad cA a dv ib ac hs ht hc hn rv ra dc nw Tm Ac ts gt lt) H := hP
        have hD : va_D A (wM ad cA a dv ib ac hs ht hc hn rv ra dc nw Tm Ac ts gt lt) := hD
        refine lv_if_eq (tgt := 43) hx hb dM_liquor_18 (by decide) (fun c_12 => ?_) (fun c_12 => ?_)
        · refine lv_iconst (v := 0) hx hb dM_liquor_43 (by decide) ?_
          refine lv_istore (lv' := [(7, .int 0), (0, .ref (ad 0)), (1, .double li), (3, .double d), (5, .double ac9)]) hx hb dM_liquor_44 hl (by decide) rfl (fun ls hl => ?_)
          refine lv_iload hx hb dM_liquor_46 (lv_at hl 0 rfl) ?_
          refine lv_if_ne (tgt := 53) hx hb dM_liquor_48 (by decide) (fun c_13 => ?_) (fun c_13 => ?_)
          · exact absurd rfl c_13
          · refine lv_iconst (v := 0) hx hb dM_liquor_51 (by decide) ?_
            exact ct_ret0 hx hb hr rfl hlocks hP hK hD hS (fun h => c_5 h.2.2.1) rfl dM_liquor_52
        · exact absurd rfl c_12
end
section
section CT4
variable {p : Program} {l : Launch} {e : Env} {R : Room} {s : State} {m : MethodId} {args : Array Value} {below : List Frame} {meth : Method} {c : Code} {H : Heap} {locs : List Loc} {cells slots : Nat} {Q : State → Prop} {pc : Nat} {ls : Array Slot} {rest : List Value}
theorem ct_topv {x y : Value} (h : x = y) (k : W p l e R s m args below meth c H locs cells slots Q (F0 m pc ls (y :: rest))) : W p l e R s m args below meth c H locs cells slots Q (F0 m pc ls (x :: rest)) := by subst h; exact k
end CT4
theorem gr2_at (kg st : UInt64) (k : Nat) (a : Nat → UInt64) (i : Nat) : gr2 kg st k a (9 + i) = a (9 + i) := by
  unfold gr2 vf_upd
  rw [if_neg (by omega), if_neg (by omega)]
/-- a share may be taken: what is answered if none is -/
noncomputable def tkR (sh : UInt64) (gt lt : Int32) : Int32 := @ite Int32 (tkS sh gt lt) (Classical.propDecidable _) (-2) (-1)
theorem tkR_1 {sh : UInt64} {gt lt : Int32} (h : tkS sh gt lt) : (-2) = tkR sh gt lt := (if_pos h).symm
theorem tkR_0 {sh : UInt64} {gt lt : Int32} (h : ¬ tkS sh gt lt) : (-1) = tkR sh gt lt := (if_neg h).symm
set_option maxHeartbeats 4000000 in
set_option maxRecDepth 100000 in
/-- grain -/
theorem cM_grain (l : Launch) (dC : Nat → ClassId) (dI : Nat → Nat → Nat) (tt : Nat → Nat) (sz : Nat) (ad : Nat → Nat) (cA : Nat → ClassId) (a : Nat → UInt64) (dv : Nat → Nat → UInt64) (ib : Nat → Int32) (ac : Nat → UInt64) (hs : Nat → Int32) (ht : Nat → UInt64) (hc hn : Int32) (rv : Nat → UInt64) (ra : UInt64) (dc nw : Int32) (Tm Ac ts : UInt64) (gt lt : Int32) (kg st : UInt64) (kind : Int32) (hnk : nNo kg) (hns : nNo st) (hok : grOK kg st kind → okG kg st kind.toNatClampNeg a ts) : Ct l dC dI tt yM_grain bM_grain 10 (some .boolean) ({ frames := 0, cells := 0, slots := 0, locals := 0 }) (tM cA) [.ref (ad 0), .double kg, .double st, .int kind] (wM ad cA a dv ib ac hs ht hc hn rv ra dc nw Tm Ac ts gt lt) sz (fun A => ctQc dC dI (tM cA) (grOK kg st kind) 1 (wM ad cA (grA kg st kind.toNatClampNeg a) dv ib ac hs ht hc hn rv ra dc nw Tm Ac (FP.dadd ts (FP.dmul kg st)) 1 lt) 0 (wM ad cA a dv ib ac hs ht hc hn rv ra dc nw Tm Ac ts gt lt) A) := by
  refine ct_of (by decide) (Nat.le_of_ble_eq_true rfl) ?_
  intro p e s m below meth c A ls hx hb hr hts hown hml hlocks hnm hA hS hP hK hD hT hl
  have hl : lv_has ls 10 [(0, .ref (ad 0)), (1, .double kg), (3, .double st), (5, .int kind)] := hl
  refine lv_dload_n hx hb dM_grain_0 rfl (lv_at hl 1 rfl) ?_
  refine lv_dconst0 hx hb dM_grain_1 ?_
  refine ct_topd (y := 0) rfl ?_
  refine lv_dcmp hx hb dM_grain_2 ?_
  refine lv_if_le (tgt := 30) hx hb dM_grain_3 (by decide) (fun c_1 => ?_) (fun c_1 => ?_)
  · refine lv_iconst (v := 0) hx hb dM_grain_30 (by decide) ?_
    refine lv_istore (lv' := [(6, .int 0), (0, .ref (ad 0)), (1, .double kg), (3, .double st), (5, .int kind)]) hx hb dM_grain_31 hl (by decide) rfl (fun ls hl => ?_)
    refine lv_iload hx hb dM_grain_33 (lv_at hl 0 rfl) ?_
    refine lv_if_eq (tgt := 49) hx hb dM_grain_35 (by decide) (fun c_2 => ?_) (fun c_2 => ?_)
    · refine lv_iconst (v := 0) hx hb dM_grain_49 (by decide) ?_
      exact ct_ret0 hx hb hr rfl hlocks hP hK hD hS (fun h => (cv_l_le _).mp c_1 h.1) rfl dM_grain_50
    · exact absurd rfl c_2
  · have h_kg0 := (Classical.not_not.mp fun h => c_1 ((cv_l_le _).mpr h) : FP.dcmp kg 0 = some .gt)
    refine lv_dload_n hx hb dM_grain_6 rfl (lv_at hl 1 rfl) ?_
    refine lv_ldc2d hx hb hown (hts _ tw_d_M_39) dM_grain_7 ?_
    refine lv_dcmp hx hb dM_grain_10 ?_
    refine lv_if_gt (tgt := 30) hx hb dM_grain_11 (by decide) (fun c_3 => ?_) (fun c_3 => ?_)
    · refine lv_iconst (v := 0) hx hb dM_grain_30 (by decide) ?_
      refine lv_istore (lv' := [(6, .int 0), (0, .ref (ad 0)), (1, .double kg), (3, .double st), (5, .int kind)]) hx hb dM_grain_31 hl (by decide) rfl (fun ls hl => ?_)
      refine lv_iload hx hb dM_grain_33 (lv_at hl 0 rfl) ?_
      refine lv_if_eq (tgt := 49) hx hb dM_grain_35 (by decide) (fun c_4 => ?_) (fun c_4 => ?_)
      · refine lv_iconst (v := 0) hx hb dM_grain_49 (by decide) ?_
        exact ct_ret0 hx hb hr rfl hlocks hP hK hD hS (fun h => h.2.1 ((cvn_g (hnk _ (by decide))).mp c_3)) rfl dM_grain_50
      · exact absurd rfl c_4
    · have h_kg1 := (fun h => c_3 ((cvn_g (hnk _ (by decide))).mpr h) : ¬ FP.dcmp kg 4652007308841189376 = some .gt)
      refine lv_dload_n hx hb dM_grain_14 rfl (lv_at hl 2 rfl) ?_
      refine lv_dconst0 hx hb dM_grain_15 ?_
      refine ct_topd (y := 0) rfl ?_
      refine lv_dcmp hx hb dM_grain_16 ?_
      refine lv_if_lt (tgt := 30) hx hb dM_grain_17 (by decide) (fun c_5 => ?_) (fun c_5 => ?_)
      · refine lv_iconst (v := 0) hx hb dM_grain_30 (by decide) ?_
        refine lv_istore (lv' := [(6, .int 0), (0, .ref (ad 0)), (1, .double kg), (3, .double st), (5, .int kind)]) hx hb dM_grain_31 hl (by decide) rfl (fun ls hl => ?_)
        refine lv_iload hx hb dM_grain_33 (lv_at hl 0 rfl) ?_
        refine lv_if_eq (tgt := 49) hx hb dM_grain_35 (by decide) (fun c_6 => ?_) (fun c_6 => ?_)
        · refine lv_iconst (v := 0) hx hb dM_grain_49 (by decide) ?_
          exact ct_ret0 hx hb hr rfl hlocks hP hK hD hS (fun h => h.2.2.1 ((cvn_l (hns _ (by decide))).mp c_5)) rfl dM_grain_50
        · exact absurd rfl c_6
      · have h_st0 := (fun h => c_5 ((cvn_l (hns _ (by decide))).mpr h) : ¬ FP.dcmp st 0 = some .lt)
        refine lv_dload_n hx hb dM_grain_20 rfl (lv_at hl 2 rfl) ?_
        refine lv_dconst1 hx hb dM_grain_21 ?_
        refine ct_topd (y := 4607182418800017408) rfl ?_
        refine lv_dcmp hx hb dM_grain_22 ?_
        refine lv_if_gt (tgt := 30) hx hb dM_grain_23 (by decide) (fun c_7 => ?_) (fun c_7 => ?_)
        · refine lv_iconst (v := 0) hx hb dM_grain_30 (by decide) ?_
          refine lv_istore (lv' := [(6, .int 0), (0, .ref (ad 0)), (1, .double kg), (3, .double st), (5, .int kind)]) hx hb dM_grain_31 hl (by decide) rfl (fun ls hl => ?_)
          refine lv_iload hx hb dM_grain_33 (lv_at hl 0 rfl) ?_
          refine lv_if_eq (tgt := 49) hx hb dM_grain_35 (by decide) (fun c_8 => ?_) (fun c_8 => ?_)
          · refine lv_iconst (v := 0) hx hb dM_grain_49 (by decide) ?_
            exact ct_ret0 hx hb hr rfl hlocks hP hK hD hS (fun h => h.2.2.2.1 ((cvn_g (hns _ (by decide))).mp c_7)) rfl dM_grain_50
          · exact absurd rfl c_8
        · have h_st1 := (fun h => c_7 ((cvn_g (hns _ (by decide))).mpr h) : ¬ FP.dcmp st 4607182418800017408 = some .gt)
          refine lv_iconst (v := 1) hx hb dM_grain_26 (by decide) ?_
          refine lv_goto (tgt := 31) hx hb dM_grain_27 (by decide) ?_
          refine lv_istore (lv' := [(6, .int 1), (0, .ref (ad 0)), (1, .double kg), (3, .double st), (5, .int kind)]) hx hb dM_grain_31 hl (by decide) rfl (fun ls hl => ?_)
          refine lv_iload hx hb dM_grain_33 (lv_at hl 0 rfl) ?_
          refine lv_if_eq (tgt := 49) hx hb dM_grain_35 (by decide) (fun c_9 => ?_) (fun c_9 => ?_)
          · exact (absurd c_9 (by decide))
          · refine lv_iload hx hb dM_grain_38 (lv_at hl 4 rfl) ?_
            refine lv_if_lt (tgt := 49) hx hb dM_grain_40 (by decide) (fun c_10 => ?_) (fun c_10 => ?_)
            · refine lv_iconst (v := 0) hx hb dM_grain_49 (by decide) ?_
              exact ct_ret0 hx hb hr rfl hlocks hP hK hD hS (fun h => Int32.not_lt.mpr h.2.2.2.2.1 c_10) rfl dM_grain_50
            · have h_k0 := (c_10 : ¬ kind < 0)
              refine lv_iload hx hb dM_grain_43 (lv_at hl 4 rfl) ?_
              refine lv_iconst (v := 3) hx hb dM_grain_45 (by decide) ?_
              refine lv_icmp_lt (tgt := 51) hx hb dM_grain_46 (by decide) (fun c_11 => ?_) (fun c_11 => ?_)
              · have h_k1 := (c_11 : kind < 3)
                have hz : grOK kg st kind := ⟨h_kg0, h_kg1, h_st0, h_st1, Int32.not_lt.mp h_k0, h_k1⟩
                obtain ⟨k, hk, rfl⟩ := nI_of (x := kind) h_k0
                have hk3 : k < 3 := (nI_ltI hk (by decide)).mp h_k1
                have hok9 := hok hz
                rw [nI_clamp hk] at hok9
                rw [nI_clamp hk]
                refine lv_aload_n hx hb dM_grain_51 rfl (lv_at hl 1 rfl) ?_
                refine va_get (D := (dC, dI)) (ci := 0) (v := .ref (ad 1)) (C := "MashEnzymes") (T := F_M) (N := 13) hx hb hts in_M hown hK hP 0 rfl rfl 0 (by decide) (hts _ tw_f_M_9) (fun _ h9 => h9) rfl dM_grain_52 ?_
                refine lv_iconst (v := 1) hx hb dM_grain_55 (by decide) ?_
                refine lv_aload_n hx hb dM_grain_56 rfl (lv_at hl 1 rfl) ?_
                refine va_get (D := (dC, dI)) (ci := 0) (v := .ref (ad 1)) (C := "MashEnzymes") (T := F_M) (N := 13) hx hb hts in_M hown hK hP 0 rfl rfl 0 (by decide) (hts _ tw_f_M_9) (fun _ h9 => h9) rfl dM_grain_57 ?_
                refine lv_iconst (v := 1) hx hb dM_grain_60 (by decide) ?_
                refine ct_dald (k := 1) (v := a 1) hx hb hK hP 1 0 rfl rfl (by unfold vp_in; decide) (rfl) (rfl) dM_grain_61 ?_
                refine lv_dload_n hx hb dM_grain_62 rfl (lv_at hl 2 rfl) ?_
                refine lv_dload_n hx hb dM_grain_63 rfl (lv_at hl 3 rfl) ?_
                refine lv_dmul hx hb dM_grain_64 (hok9.1) ?_
                refine lv_dadd hx hb dM_grain_65 (hok9.2.1) ?_
                refine ct_dast (k := 1) (w1 := (wM ad cA (vf_upd a 1 (FP.dadd (a 1) (FP.dmul kg st))) dv ib ac hs ht hc hn rv ra dc nw Tm Ac ts gt lt)) hx hb hK hP hD hS 1 0 rfl rfl (by unfold vp_in; decide) (rfl) (rfl) dM_grain_66 (fun H locs hP hD hS => ?_)
                refine lv_aload_n hx hb dM_grain_67 rfl (lv_at hl 1 rfl) ?_
                refine lv_aload_n hx hb dM_grain_68 rfl (lv_at hl 1 rfl) ?_
                refine va_get (D := (dC, dI)) (ci := 0) (v := .double ts) (C := "MashEnzymes") (T := F_M) (N := 13) hx hb hts in_M hown hK hP 0 rfl rfl 10 (by decide) (hts _ tw_f_M_41) (fun _ h9 => h9) rfl dM_grain_69 ?_
                refine lv_dload_n hx hb dM_grain_72 rfl (lv_at hl 2 rfl) ?_
                refine lv_dload_n hx hb dM_grain_73 rfl (lv_at hl 3 rfl) ?_
                refine lv_dmul hx hb dM_grain_74 (hok9.1) ?_
                refine lv_dadd hx hb dM_grain_75 (hok9.2.2.1) ?_
                refine va_put (D := (dC, dI)) (ci := 0) (v := .double (FP.dadd ts (FP.dmul kg st))) (ty := .double) (C := "MashEnzymes") (T := F_M) (N := 13) hx hb hts in_M t_M t_M_ok n_M hown hK hP hD hS 0 rfl rfl 10 (by decide) (hts _ tw_f_M_41) (fun _ h9 => h9) rfl (by decide +kernel) rfl rfl (Nat.le_of_ble_eq_true rfl) dM_grain_76 (fun H locs hP hD hS => ?_)
                have hP : va_P (dC, dI) cls (wM ad cA (vf_upd a 1 (FP.dadd (a 1) (FP.dmul kg st))) dv ib ac hs ht hc hn rv ra dc nw Tm Ac (FP.dadd ts (FP.dmul kg st)) gt lt) H := hP
                have hD : va_D A (wM ad cA (vf_upd a 1 (FP.dadd (a 1) (FP.dmul kg st))) dv ib ac hs ht hc hn rv ra dc nw Tm Ac (FP.dadd ts (FP.dmul kg st)) gt lt) := hD
                refine lv_aload_n hx hb dM_grain_79 rfl (lv_at hl 1 rfl) ?_
                refine va_get (D := (dC, dI)) (ci := 0) (v := .ref (ad 1)) (C := "MashEnzymes") (T := F_M) (N := 13) hx hb hts in_M hown hK hP 0 rfl rfl 0 (by decide) (hts _ tw_f_M_9) (fun _ h9 => h9) rfl dM_grain_80 ?_
                refine lv_bipush (v := 8) hx hb dM_grain_83 (by decide) ?_
                refine lv_aload_n hx hb dM_grain_85 rfl (lv_at hl 1 rfl) ?_
                refine va_get (D := (dC, dI)) (ci := 0) (v := .ref (ad 1)) (C := "MashEnzymes") (T := F_M) (N := 13) hx hb hts in_M hown hK hP 0 rfl rfl 0 (by decide) (hts _ tw_f_M_9) (fun _ h9 => h9) rfl dM_grain_86 ?_
                refine lv_bipush (v := 8) hx hb dM_grain_89 (by decide) ?_
                refine ct_dald (k := 8) (v := a 8) hx hb hK hP 1 0 rfl rfl (by unfold vp_in; decide) (rfl) (rfl) dM_grain_91 ?_
                refine lv_dload_n hx hb dM_grain_92 rfl (lv_at hl 2 rfl) ?_
                refine va_gets hx hb hT.1.1 hS hown (hts _ tw_f_M_45) (fun _ h9 => h9) dM_grain_93 ?_
                refine lv_iload hx hb dM_grain_96 (lv_at hl 4 rfl) ?_
                refine ct_tab (k := k) (v := nI (tb_GP k)) hx hb hT.1 hS (vp_in_nI (by omega) (by decide)) (nI_clamp (by omega)) (rfl) dM_grain_98 ?_
                refine lv_i2d hx hb dM_grain_99 ?_
                refine lv_ldc2d hx hb hown (hts _ tw_d_M_49) dM_grain_100 ?_
                refine lv_ddiv hx hb dM_grain_103 ((ft_isP_P (gp_P k hk3)).n) ?_
                refine ct_topd (y := gpD k) (rfl) ?_
                refine lv_dmul hx hb dM_grain_104 (hok9.2.2.2.1) ?_
                refine lv_dadd hx hb dM_grain_105 (hok9.2.2.2.2.1) ?_
                refine ct_dast (k := 8) (w1 := (wM ad cA (gr2 kg st k a) dv ib ac hs ht hc hn rv ra dc nw Tm Ac (FP.dadd ts (FP.dmul kg st)) gt lt)) hx hb hK hP hD hS 1 0 rfl rfl (by unfold vp_in; decide) (rfl) (rfl) dM_grain_106 (fun H locs hP hD hS => ?_)
                refine lv_iconst (v := 0) hx hb dM_grain_107 (by decide) ?_
                refine ct_topi (y := nI 0) (rfl) ?_
                refine lv_istore (lv' := [(7, .int (nI 0)), (6, .int 1), (0, .ref (ad 0)), (1, .double kg), (3, .double st), (5, .int (nI k))]) hx hb dM_grain_108 hl (by decide) rfl (fun ls hl => ?_)
                have key : ∀ (n i : Nat) (ls : Array Slot) (H : Heap) (locs : List Loc), n + i = 4 → va_P (dC, dI) cls (wM ad cA (grE kg k i (gr2 kg st k a)) dv ib ac hs ht hc hn rv ra dc nw Tm Ac (FP.dadd ts (FP.dmul kg st)) gt lt) H → va_D A (wM ad cA (grE kg k i (gr2 kg st k a)) dv ib ac hs ht hc hn rv ra dc nw Tm Ac (FP.dadd ts (FP.dmul kg st)) gt lt) → va_S A s.heap H locs → lv_has ls 10 [(7, .int (nI i)), (5, .int (nI k)), (1, .double kg), (0, .ref (ad 0))] → W p l e ({ frames := 0, cells := 0, slots := 0, locals := 0 } : Room) s m ([.ref (ad 0), .double kg, .double st, .int (nI k)] : List Value).toArray below meth c H locs 0 0 (MQ below (ctQc dC dI (tM cA) (grOK kg st (nI k)) 1 (wM ad cA (grA kg st k a) dv ib ac hs ht hc hn rv ra dc nw Tm Ac (FP.dadd ts (FP.dmul kg st)) 1 lt) 0 (wM ad cA a dv ib ac hs ht hc hn rv ra dc nw Tm Ac ts gt lt) A) ([.ref (ad 0), .double kg, .double st, .int (nI k)] : List Value).toArray s 0 0 A) (F0 m 110 ls []) := by
                  intro n
                  induction n with
                  | zero =>
                    intro i ls H locs hni hP hD hS hl
                    refine lv_iload hx hb dM_grain_110 (lv_at hl 0 rfl) ?_
                    refine lv_iconst (v := 4) hx hb dM_grain_112 (by decide) ?_
                    refine lv_icmp_ge (tgt := 165) hx hb dM_grain_113 (by decide) (fun c_12 => ?_) (fun c_12 => ?_)
                    · have hi : i = 4 := by omega
                      subst hi
                      refine lv_aload_n hx hb dM_grain_165 rfl (lv_at hl 3 rfl) ?_
                      refine lv_iconst (v := 1) hx hb dM_grain_166 (by decide) ?_
                      refine va_put (D := (dC, dI)) (ci := 0) (v := .int 1) (ty := .boolean) (C := "MashEnzymes") (T := F_M) (N := 13) hx hb hts in_M t_M t_M_ok n_M hown hK hP hD hS 0 rfl rfl 11 (by decide) (hts _ tw_f_M_56) (fun _ h9 => h9) rfl (by decide +kernel) rfl rfl (Nat.le_of_ble_eq_true rfl) dM_grain_167 (fun H locs hP hD hS => ?_)
                      have hP : va_P (dC, dI) cls (wM ad cA (grE kg k 4 (gr2 kg st k a)) dv ib ac hs ht hc hn rv ra dc nw Tm Ac (FP.dadd ts (FP.dmul kg st)) 1 lt) H := hP
                      have hD : va_D A (wM ad cA (grE kg k 4 (gr2 kg st k a)) dv ib ac hs ht hc hn rv ra dc nw Tm Ac (FP.dadd ts (FP.dmul kg st)) 1 lt) := hD
                      refine lv_iconst (v := 1) hx hb dM_grain_170 (by decide) ?_
                      exact ct_ret1 hx hb hr rfl hlocks hP hK hD hS hz rfl dM_grain_171
                    · exact absurd (nI_le (a := 4) (b := i) (by omega) (by omega)) c_12
                  | succ n ih =>
                    intro i ls H locs hni hP hD hS hl
                    refine lv_iload hx hb dM_grain_110 (lv_at hl 0 rfl) ?_
                    refine lv_iconst (v := 4) hx hb dM_grain_112 (by decide) ?_
                    refine lv_icmp_ge (tgt := 165) hx hb dM_grain_113 (by decide) (fun c_13 => ?_) (fun c_13 => ?_)
                    · exact absurd ((nI_leI (a := 4) (b := i) (by decide) (by omega)).mp c_13) (by omega)
                    · have hi : i < 4 := by omega
                      refine va_gets hx hb hT.2.1.1 hS hown (hts _ tw_f_M_51) (fun _ h9 => h9) dM_grain_116 ?_
                      refine lv_iload hx hb dM_grain_119 (lv_at hl 1 rfl) ?_
                      refine lv_iconst (v := 4) hx hb dM_grain_121 (by decide) ?_
                      refine lv_imul hx hb dM_grain_122 ?_
                      refine ct_topi (y := nI (k * 4)) (by rw [show (4 : Int32) = nI 4 from rfl, pk_mul]) ?_
                      refine lv_iload hx hb dM_grain_123 (lv_at hl 0 rfl) ?_
                      refine lv_iadd hx hb dM_grain_125 ?_
                      refine ct_topi (y := nI (k * 4 + i)) (nI_add _ _) ?_
                      refine ct_tab (k := (k * 4 + i)) (v := nI (tb_GE (k * 4 + i))) hx hb hT.2.1 hS (vp_in_nI (by omega) (by decide)) (nI_clamp (by omega)) (rfl) dM_grain_126 ?_
                      refine lv_i2d hx hb dM_grain_127 ?_
                      refine lv_ldc2d hx hb hown (hts _ tw_d_M_54) dM_grain_128 ?_
                      refine lv_ddiv hx hb dM_grain_131 ((ft_isP_P (ge_P k hk3 i hi)).n) ?_
                      refine ct_topd (y := geD k i) (rfl) ?_
                      refine lv_dstore (lv' := [(8, .double (geD k i)), (7, .int (nI i)), (5, .int (nI k)), (1, .double kg), (0, .ref (ad 0))]) hx hb dM_grain_132 hl (by decide) rfl (fun ls hl => ?_)
                      refine lv_aload_n hx hb dM_grain_134 rfl (lv_at hl 4 rfl) ?_
                      refine va_get (D := (dC, dI)) (ci := 0) (v := .ref (ad 1)) (C := "MashEnzymes") (T := F_M) (N := 13) hx hb hts in_M hown hK hP 0 rfl rfl 0 (by decide) (hts _ tw_f_M_9) (fun _ h9 => h9) rfl dM_grain_135 ?_
                      refine lv_bipush (v := 9) hx hb dM_grain_138 (by decide) ?_
                      refine lv_iload hx hb dM_grain_140 (lv_at hl 1 rfl) ?_
                      refine lv_iadd hx hb dM_grain_142 ?_
                      refine ct_topi (y := nI (9 + i)) (by rw [show (9 : Int32) = nI 9 from rfl, nI_add]) ?_
                      refine lv_aload_n hx hb dM_grain_143 rfl (lv_at hl 4 rfl) ?_
                      refine va_get (D := (dC, dI)) (ci := 0) (v := .ref (ad 1)) (C := "MashEnzymes") (T := F_M) (N := 13) hx hb hts in_M hown hK hP 0 rfl rfl 0 (by decide) (hts _ tw_f_M_9) (fun _ h9 => h9) rfl dM_grain_144 ?_
                      refine lv_bipush (v := 9) hx hb dM_grain_147 (by decide) ?_
                      refine lv_iload hx hb dM_grain_149 (lv_at hl 1 rfl) ?_
                      refine lv_iadd hx hb dM_grain_151 ?_
                      refine ct_topi (y := nI (9 + i)) (by rw [show (9 : Int32) = nI 9 from rfl, nI_add]) ?_
                      refine ct_dald (k := (9 + i)) (v := a (9 + i)) hx hb hK hP 1 0 rfl rfl (vp_in_nI (by omega) (by decide)) (nI_clamp (by omega)) (by rw [grE_at, gr2_at]) dM_grain_152 ?_
                      refine lv_dload_n hx hb dM_grain_153 rfl (lv_at hl 3 rfl) ?_
                      refine lv_dload hx hb dM_grain_154 (lv_at hl 0 rfl) ?_
                      refine lv_dmul hx hb dM_grain_156 ((hok9.2.2.2.2.2 i hi).1) ?_
                      refine lv_dadd hx hb dM_grain_157 ((hok9.2.2.2.2.2 i hi).2) ?_
                      refine ct_dast (k := (9 + i)) (w1 := (wM ad cA (grE kg k (i + 1) (gr2 kg st k a)) dv ib ac hs ht hc hn rv ra dc nw Tm Ac (FP.dadd ts (FP.dmul kg st)) gt lt)) hx hb hK hP hD hS 1 0 rfl rfl (vp_in_nI (by omega) (by decide)) (nI_clamp (by omega)) (by rw [← grE_s, gr2_at]; rfl) dM_grain_158 (fun H locs hP hD hS => ?_)
                      refine lv_iinc (v := (nI (i + 1))) (lv' := [(7, .int (nI (i + 1))), (8, .double (geD k i)), (5, .int (nI k)), (1, .double kg), (0, .ref (ad 0))]) hx hb dM_grain_159 hl (k := 1) rfl (nI_1 i) (by decide) rfl (fun ls hl => ?_)
                      refine lv_goto (tgt := 110) hx hb dM_grain_162 (by decide) ?_
                      exact ih (i + 1) ls H locs (by omega) hP hD hS (lv_sub hl [0, 2, 3, 4] rfl)
                rw [← grE_0 kg k (gr2 kg st k a)] at hP hD
                exact key 4 0 ls _ _ rfl hP hD hS (lv_sub hl [0, 5, 3, 2] rfl)
              · refine lv_iconst (v := 0) hx hb dM_grain_49 (by decide) ?_
                exact ct_ret0 hx hb hr rfl hlocks hP hK hD hS (fun h => c_11 h.2.2.2.2.2) rfl dM_grain_50

set_option maxHeartbeats 4000000 in
set_option maxRecDepth 100000 in
/-- take -/
theorem cM_take (l : Launch) (dC : Nat → ClassId) (dI : Nat → Nat → Nat) (tt : Nat → Nat) (sz : Nat) (ad : Nat → Nat) (cA : Nat → ClassId) (a : Nat → UInt64) (dv : Nat → Nat → UInt64) (ib : Nat → Int32) (ac : Nat → UInt64) (hs : Nat → Int32) (ht : Nat → UInt64) (hc hn : Int32) (rv : Nat → UInt64) (ra : UInt64) (k : Nat) (nw : Int32) (Tm Ac ts : UInt64) (gt lt : Int32) (sh : UInt64) (hk9 : k ≤ 8) (hok : tkS sh gt lt → ∀ i, i < 13 → vf_n64 (FP.dmul (a i) sh) ∧ vf_n64 (FP.dsub (a i) (FP.dmul (a i) sh))) : Ct l dC dI tt yM_take bM_take 6 (some .int) ({ frames := 1, cells := 0, slots := 0, locals := 20 }) (tM cA) [.ref (ad 0), .double sh] (wM ad cA a dv ib ac hs ht hc hn rv ra (nI k) nw Tm Ac ts gt lt) sz (fun A => ctQc dC dI (tM cA) (tkS sh gt lt ∧ k < 8) (nI k) (wM ad cA (tkA a sh 13) (va_up dv k (tkD a sh 13 (dv k))) ib ac hs ht hc hn rv ra (nI (k + 1)) nw Tm Ac ts gt lt) (tkR sh gt lt) (wM ad cA a dv ib ac hs ht hc hn rv ra (nI k) nw Tm Ac ts gt lt) A) := by
  refine ct_of (by decide) (Nat.le_of_ble_eq_true rfl) ?_
  intro p e s m below meth c A ls hx hb hr hts hown hml hlocks hnm hA hS hP hK hD hT hl
  have hl : lv_has ls 6 [(0, .ref (ad 0)), (1, .double sh)] := hl
  refine lv_dload_n hx hb dM_take_0 rfl (lv_at hl 1 rfl) ?_
  refine lv_dconst0 hx hb dM_take_1 ?_
  refine ct_topd (y := 0) rfl ?_
  refine lv_dcmp hx hb dM_take_2 ?_
  refine lv_if_le (tgt := 16) hx hb dM_take_3 (by decide) (fun c_1 => ?_) (fun c_1 => ?_)
  · refine lv_iconst (v := 0) hx hb dM_take_16 (by decide) ?_
    refine lv_istore_n (lv' := [(3, .int 0), (0, .ref (ad 0)), (1, .double sh)]) hx hb dM_take_17 rfl hl (by decide) rfl (fun ls hl => ?_)
    refine lv_iload_n hx hb dM_take_18 rfl (lv_at hl 0 rfl) ?_
    refine lv_if_eq (tgt := 29) hx hb dM_take_19 (by decide) (fun c_2 => ?_) (fun c_2 => ?_)
    · refine lv_iconst (v := (-1)) hx hb dM_take_29 (by decide) ?_
      exact ct_ret0 hx hb hr rfl hlocks hP hK hD hS (fun h => (fun h => (cv_l_le _).mp c_1 h.1) h.1) (tkR_0 (fun h => (cv_l_le _).mp c_1 h.1)) dM_take_30
    · exact absurd rfl c_2
  · have h_sh0 := (Classical.not_not.mp fun h => c_1 ((cv_l_le _).mpr h) : FP.dcmp sh 0 = some .gt)
    refine lv_dload_n hx hb dM_take_6 rfl (lv_at hl 1 rfl) ?_
    refine lv_dconst1 hx hb dM_take_7 ?_
    refine ct_topd (y := 4607182418800017408) rfl ?_
    refine lv_dcmp hx hb dM_take_8 ?_
    refine lv_if_ge (tgt := 16) hx hb dM_take_9 (by decide) (fun c_3 => ?_) (fun c_3 => ?_)
    · refine lv_iconst (v := 0) hx hb dM_take_16 (by decide) ?_
      refine lv_istore_n (lv' := [(3, .int 0), (0, .ref (ad 0)), (1, .double sh)]) hx hb dM_take_17 rfl hl (by decide) rfl (fun ls hl => ?_)
      refine lv_iload_n hx hb dM_take_18 rfl (lv_at hl 0 rfl) ?_
      refine lv_if_eq (tgt := 29) hx hb dM_take_19 (by decide) (fun c_4 => ?_) (fun c_4 => ?_)
      · refine lv_iconst (v := (-1)) hx hb dM_take_29 (by decide) ?_
        exact ct_ret0 hx hb hr rfl hlocks hP hK hD hS (fun h => (fun h => (cv_g_ge _).mp c_3 h.2.1) h.1) (tkR_0 (fun h => (cv_g_ge _).mp c_3 h.2.1)) dM_take_30
      · exact absurd rfl c_4
    · have h_sh1 := (Classical.not_not.mp fun h => c_3 ((cv_g_ge _).mpr h) : FP.dcmp sh 4607182418800017408 = some .lt)
      refine lv_iconst (v := 1) hx hb dM_take_12 (by decide) ?_
      refine lv_goto (tgt := 17) hx hb dM_take_13 (by decide) ?_
      refine lv_istore_n (lv' := [(3, .int 1), (0, .ref (ad 0)), (1, .double sh)]) hx hb dM_take_17 rfl hl (by decide) rfl (fun ls hl => ?_)
      refine lv_iload_n hx hb dM_take_18 rfl (lv_at hl 0 rfl) ?_
      refine lv_if_eq (tgt := 29) hx hb dM_take_19 (by decide) (fun c_5 => ?_) (fun c_5 => ?_)
      · exact (absurd c_5 (by decide))
      · refine lv_aload_n hx hb dM_take_22 rfl (lv_at hl 1 rfl) ?_
        refine ct_cvc (As := []) (rest := []) (wr := []) (w1 := (wM ad cA a dv ib ac hs ht hc hn rv ra (nI k) nw Tm Ac ts gt lt)) (w0 := (wM ad cA a dv ib ac hs ht hc hn rv ra (nI k) nw Tm Ac ts gt lt)) ⟨hx, hb, hml, hown, hts⟩ (cM_isEmpty l dC dI tt _ ad cA a dv ib ac hs ht hc hn rv ra (nI k) nw Tm Ac ts gt lt) (gT_V tw_m_M_90 tw_i_yM_isEmpty tw_s_yM_isEmpty tw_I_M tw_c_yM_isEmpty) ⟨rfl, by decide +kernel, by decide +kernel, (by decide +kernel : (parseMethodDescriptor yM_isEmpty.desc).map (fun d => d.parameters.length) = some 0)⟩ ⟨by decide, by decide⟩ (ci := 0) rfl rfl rfl hP hD hK hS hA hT [0, 1, 2, 3, 4, 5, 6, 7, 8, 9, 10, 11, 12, 13, 14, 15, 16, 17] [] [0, 1, 2, 3, 4, 5, 6, 7] (by decide) rfl rfl (by decide) (by decide) rfl hl.1 rfl (Nat.le_of_ble_eq_true rfl) dM_take_23 ⟨by decide, by decide⟩ (fun c_6 H locs hP hD hS => ?_) (fun c_6 H locs hP hD hS => ?_)
        · have hP : va_P (dC, dI) cls (wM ad cA a dv ib ac hs ht hc hn rv ra (nI k) nw Tm Ac ts gt lt) H := hP
          have hD : va_D A (wM ad cA a dv ib ac hs ht hc hn rv ra (nI k) nw Tm Ac ts gt lt) := hD
          refine lv_if_eq (tgt := 31) hx hb dM_take_26 (by decide) (fun c_7 => ?_) (fun c_7 => ?_)
          · exact (absurd c_7 (by decide))
          · refine lv_iconst (v := (-1)) hx hb dM_take_29 (by decide) ?_
            exact ct_ret0 hx hb hr rfl hlocks hP hK hD hS (fun h => h.1.2.2 c_6) (tkR_0 (fun h => h.2.2 c_6)) dM_take_30
        · have hP : va_P (dC, dI) cls (wM ad cA a dv ib ac hs ht hc hn rv ra (nI k) nw Tm Ac ts gt lt) H := hP
          have hD : va_D A (wM ad cA a dv ib ac hs ht hc hn rv ra (nI k) nw Tm Ac ts gt lt) := hD
          refine lv_if_eq (tgt := 31) hx hb dM_take_26 (by decide) (fun c_8 => ?_) (fun c_8 => ?_)
          · have hts9 : tkS sh gt lt := ⟨h_sh0, h_sh1, c_6⟩
            refine lv_aload_n hx hb dM_take_31 rfl (lv_at hl 1 rfl) ?_
            refine va_get (D := (dC, dI)) (ci := 0) (v := .int (nI k)) (C := "MashEnzymes") (T := F_M) (N := 13) hx hb hts in_M hown hK hP 0 rfl rfl 6 (by decide) (hts _ tw_f_M_100) (fun _ h9 => h9) rfl dM_take_32 ?_
            refine lv_bipush (v := 8) hx hb dM_take_35 (by decide) ?_
            refine lv_icmp_lt (tgt := 43) hx hb dM_take_37 (by decide) (fun c_9 => ?_) (fun c_9 => ?_)
            · have hk8 : k < 8 := (nI_ltI (a := k) (b := 8) (by omega) (by decide)).mp c_9
              refine lv_aload_n hx hb dM_take_43 rfl (lv_at hl 1 rfl) ?_
              refine va_get (D := (dC, dI)) (ci := 0) (v := .ref (ad 2)) (C := "MashEnzymes") (T := F_M) (N := 13) hx hb hts in_M hown hK hP 0 rfl rfl 1 (by decide) (hts _ tw_f_M_15) (fun _ h9 => h9) rfl dM_take_44 ?_
              refine lv_aload_n hx hb dM_take_47 rfl (lv_at hl 1 rfl) ?_
              refine va_get (D := (dC, dI)) (ci := 0) (v := .int (nI k)) (C := "MashEnzymes") (T := F_M) (N := 13) hx hb hts in_M hown hK hP 0 rfl rfl 6 (by decide) (hts _ tw_f_M_100) (fun _ h9 => h9) rfl dM_take_48 ?_
              refine mg_ald hx hb hK hP 2 1 rfl rfl (vp_in_nI hk8 (by decide)) dM_take_51 ?_
              refine ct_topv (y := .ref (ad (k + 10))) (by rw [nI_clamp (by omega)]; exact congrArg va_rf (if_pos hk8)) ?_
              refine lv_astore (lv' := [(4, .ref (ad (k + 10))), (3, .int 1), (0, .ref (ad 0)), (1, .double sh)]) hx hb dM_take_52 hl (by decide) rfl (fun ls hl => ?_)
              refine lv_iconst (v := 0) hx hb dM_take_54 (by decide) ?_
              refine ct_topi (y := nI 0) (rfl) ?_
              refine lv_istore (lv' := [(5, .int (nI 0)), (4, .ref (ad (k + 10))), (3, .int 1), (0, .ref (ad 0)), (1, .double sh)]) hx hb dM_take_55 hl (by decide) rfl (fun ls hl => ?_)
              have key : ∀ (n i : Nat) (ls : Array Slot) (H : Heap) (locs : List Loc), n + i = 13 → va_P (dC, dI) cls (wM ad cA (tkA a sh i) (va_up dv k (tkD a sh i (dv k))) ib ac hs ht hc hn rv ra (nI k) nw Tm Ac ts gt lt) H → va_D A (wM ad cA (tkA a sh i) (va_up dv k (tkD a sh i (dv k))) ib ac hs ht hc hn rv ra (nI k) nw Tm Ac ts gt lt) → va_S A s.heap H locs → lv_has ls 6 [(5, .int (nI i)), (4, .ref (ad (k + 10))), (1, .double sh), (0, .ref (ad 0))] → W p l e ({ frames := 1, cells := 0, slots := 0, locals := 20 } : Room) s m ([.ref (ad 0), .double sh] : List Value).toArray below meth c H locs 0 0 (MQ below (ctQc dC dI (tM cA) (tkS sh gt lt ∧ k < 8) (nI k) (wM ad cA (tkA a sh 13) (va_up dv k (tkD a sh 13 (dv k))) ib ac hs ht hc hn rv ra (nI (k + 1)) nw Tm Ac ts gt lt) (tkR sh gt lt) (wM ad cA a dv ib ac hs ht hc hn rv ra (nI k) nw Tm Ac ts gt lt) A) ([.ref (ad 0), .double sh] : List Value).toArray s 0 0 A) (F0 m 57 ls []) := by
                intro n
                induction n with
                | zero =>
                  intro i ls H locs hni hP hD hS hl
                  refine lv_iload hx hb dM_take_57 (lv_at hl 0 rfl) ?_
                  refine lv_bipush (v := 13) hx hb dM_take_59 (by decide) ?_
                  refine lv_icmp_ge (tgt := 104) hx hb dM_take_61 (by decide) (fun c_10 => ?_) (fun c_10 => ?_)
                  · have hi : i = 13 := by omega
                    subst hi
                    refine lv_aload_n hx hb dM_take_104 rfl (lv_at hl 3 rfl) ?_
                    refine lv_aload_n hx hb dM_take_105 rfl (lv_at hl 3 rfl) ?_
                    refine va_get (D := (dC, dI)) (ci := 0) (v := .int (nI k)) (C := "MashEnzymes") (T := F_M) (N := 13) hx hb hts in_M hown hK hP 0 rfl rfl 6 (by decide) (hts _ tw_f_M_100) (fun _ h9 => h9) rfl dM_take_106 ?_
                    refine lv_iconst (v := 1) hx hb dM_take_109 (by decide) ?_
                    refine lv_iadd hx hb dM_take_110 ?_
                    refine ct_topi (y := nI (k + 1)) (nI_1 k) ?_
                    refine va_put (D := (dC, dI)) (ci := 0) (v := .int (nI (k + 1))) (ty := .int) (C := "MashEnzymes") (T := F_M) (N := 13) hx hb hts in_M t_M t_M_ok n_M hown hK hP hD hS 0 rfl rfl 6 (by decide) (hts _ tw_f_M_100) (fun _ h9 => h9) rfl (by decide +kernel) rfl rfl (Nat.le_of_ble_eq_true rfl) dM_take_111 (fun H locs hP hD hS => ?_)
                    have hP : va_P (dC, dI) cls (wM ad cA (tkA a sh 13) (va_up dv k (tkD a sh 13 (dv k))) ib ac hs ht hc hn rv ra (nI (k + 1)) nw Tm Ac ts gt lt) H := hP
                    have hD : va_D A (wM ad cA (tkA a sh 13) (va_up dv k (tkD a sh 13 (dv k))) ib ac hs ht hc hn rv ra (nI (k + 1)) nw Tm Ac ts gt lt) := hD
                    refine lv_aload_n hx hb dM_take_114 rfl (lv_at hl 3 rfl) ?_
                    refine va_get (D := (dC, dI)) (ci := 0) (v := .int (nI (k + 1))) (C := "MashEnzymes") (T := F_M) (N := 13) hx hb hts in_M hown hK hP 0 rfl rfl 6 (by decide) (hts _ tw_f_M_100) (fun _ h9 => h9) rfl dM_take_115 ?_
                    refine lv_iconst (v := 1) hx hb dM_take_118 (by decide) ?_
                    refine lv_isub hx hb dM_take_119 ?_
                    refine ct_topi (y := nI k) (nI_pred k) ?_
                    exact ct_ret1 hx hb hr rfl hlocks hP hK hD hS ⟨hts9, hk8⟩ rfl dM_take_120
                  · exact absurd (nI_le (a := 13) (b := i) (by omega) (by omega)) c_10
                | succ n ih =>
                  intro i ls H locs hni hP hD hS hl
                  refine lv_iload hx hb dM_take_57 (lv_at hl 0 rfl) ?_
                  refine lv_bipush (v := 13) hx hb dM_take_59 (by decide) ?_
                  refine lv_icmp_ge (tgt := 104) hx hb dM_take_61 (by decide) (fun c_11 => ?_) (fun c_11 => ?_)
                  · exact absurd ((nI_leI (a := 13) (b := i) (by decide) (by omega)).mp c_11) (by omega)
                  · have hi : i < 13 := by omega
                    refine lv_aload hx hb dM_take_64 (lv_at hl 1 rfl) ?_
                    refine lv_iload hx hb dM_take_66 (lv_at hl 0 rfl) ?_
                    refine lv_aload_n hx hb dM_take_68 rfl (lv_at hl 3 rfl) ?_
                    refine va_get (D := (dC, dI)) (ci := 0) (v := .ref (ad 1)) (C := "MashEnzymes") (T := F_M) (N := 13) hx hb hts in_M hown hK hP 0 rfl rfl 0 (by decide) (hts _ tw_f_M_9) (fun _ h9 => h9) rfl dM_take_69 ?_
                    refine lv_iload hx hb dM_take_72 (lv_at hl 0 rfl) ?_
                    refine ct_dald (k := i) (v := a i) hx hb hK hP 1 0 rfl rfl (vp_in_nI (by omega) (by decide)) (nI_clamp (by omega)) (tkA_at a sh i) dM_take_74 ?_
                    refine lv_dload_n hx hb dM_take_75 rfl (lv_at hl 2 rfl) ?_
                    refine lv_dmul hx hb dM_take_76 ((hok hts9 i hi).1) ?_
                    refine ct_dast (k := i) (w1 := (wM ad cA (tkA a sh i) (va_up dv k (tkD a sh (i + 1) (dv k))) ib ac hs ht hc hn rv ra (nI k) nw Tm Ac ts gt lt)) hx hb hK hP hD hS (10 + k) 7 (wM_dec hk8) rfl (vp_in_nI (by omega) (by decide)) (nI_clamp (by omega)) (by rw [wM_set hk8, bx_uu, show va_up dv k (tkD a sh i (dv k)) k = tkD a sh i (dv k) from if_pos rfl, tkD_s]) dM_take_77 (fun H locs hP hD hS => ?_)
                    refine lv_aload_n hx hb dM_take_78 rfl (lv_at hl 3 rfl) ?_
                    refine va_get (D := (dC, dI)) (ci := 0) (v := .ref (ad 1)) (C := "MashEnzymes") (T := F_M) (N := 13) hx hb hts in_M hown hK hP 0 rfl rfl 0 (by decide) (hts _ tw_f_M_9) (fun _ h9 => h9) rfl dM_take_79 ?_
                    refine lv_iload hx hb dM_take_82 (lv_at hl 0 rfl) ?_
                    refine lv_aload_n hx hb dM_take_84 rfl (lv_at hl 3 rfl) ?_
                    refine va_get (D := (dC, dI)) (ci := 0) (v := .ref (ad 1)) (C := "MashEnzymes") (T := F_M) (N := 13) hx hb hts in_M hown hK hP 0 rfl rfl 0 (by decide) (hts _ tw_f_M_9) (fun _ h9 => h9) rfl dM_take_85 ?_
                    refine lv_iload hx hb dM_take_88 (lv_at hl 0 rfl) ?_
                    refine ct_dald (k := i) (v := a i) hx hb hK hP 1 0 rfl rfl (vp_in_nI (by omega) (by decide)) (nI_clamp (by omega)) (tkA_at a sh i) dM_take_90 ?_
                    refine lv_aload hx hb dM_take_91 (lv_at hl 1 rfl) ?_
                    refine lv_iload hx hb dM_take_93 (lv_at hl 0 rfl) ?_
                    refine ct_dald (k := i) (v := FP.dmul (a i) sh) hx hb hK hP (10 + k) 7 (wM_dec hk8) rfl (vp_in_nI (by omega) (by decide)) (nI_clamp (by omega)) (by rw [show va_up dv k (tkD a sh (i + 1) (dv k)) k = tkD a sh (i + 1) (dv k) from if_pos rfl, tkD_at]) dM_take_95 ?_
                    refine lv_dsub hx hb dM_take_96 ((hok hts9 i hi).2) ?_
                    refine ct_dast (k := i) (w1 := (wM ad cA (tkA a sh (i + 1)) (va_up dv k (tkD a sh (i + 1) (dv k))) ib ac hs ht hc hn rv ra (nI k) nw Tm Ac ts gt lt)) hx hb hK hP hD hS 1 0 rfl rfl (vp_in_nI (by omega) (by decide)) (nI_clamp (by omega)) (by rw [← tkA_s]; rfl) dM_take_97 (fun H locs hP hD hS => ?_)
                    refine lv_iinc (v := (nI (i + 1))) (lv' := [(5, .int (nI (i + 1))), (4, .ref (ad (k + 10))), (1, .double sh), (0, .ref (ad 0))]) hx hb dM_take_98 hl (k := 0) rfl (nI_1 i) (by decide) rfl (fun ls hl => ?_)
                    refine lv_goto (tgt := 57) hx hb dM_take_101 (by decide) ?_
                    exact ih (i + 1) ls H locs (by omega) hP hD hS (lv_sub hl [0, 1, 2, 3] rfl)
              have hP : va_P (dC, dI) cls (wM ad cA (tkA a sh 0) (va_up dv k (tkD a sh 0 (dv k))) ib ac hs ht hc hn rv ra (nI k) nw Tm Ac ts gt lt) _ := (by rw [tkA_0, tkD_0, va_up_id]; exact hP)
              have hD : va_D A (wM ad cA (tkA a sh 0) (va_up dv k (tkD a sh 0 (dv k))) ib ac hs ht hc hn rv ra (nI k) nw Tm Ac ts gt lt) := (by rw [tkA_0, tkD_0, va_up_id]; exact hD)
              exact key 13 0 ls _ _ rfl hP hD hS (lv_sub hl [0, 1, 4, 3] rfl)
            · refine lv_bipush (v := (-2)) hx hb dM_take_40 (by decide) ?_
              exact ct_ret0 hx hb hr rfl hlocks hP hK hD hS (fun h => c_9 (nI_lt (a := k) (b := 8) h.2 (by decide))) (tkR_1 hts9) dM_take_42
          · exact absurd rfl c_8

set_option maxHeartbeats 4000000 in
set_option maxRecDepth 100000 in
/-- back -/
theorem cM_back (l : Launch) (dC : Nat → ClassId) (dI : Nat → Nat → Nat) (tt : Nat → Nat) (sz : Nat) (ad : Nat → Nat) (cA : Nat → ClassId) (a : Nat → UInt64) (dv : Nat → Nat → UInt64) (ib : Nat → Int32) (ac : Nat → UInt64) (hs : Nat → Int32) (ht : Nat → UInt64) (hc hn : Int32) (rv : Nat → UInt64) (ra : UInt64) (kd : Nat) (nw : Int32) (Tm Ac ts : UInt64) (gt lt : Int32) (dec : Int32) (d : UInt64) (hk9 : kd ≤ 8) (hok : bkOK ib (nI kd) dec d → okM Tm (a 0) d (dv dec.toNatClampNeg 0) ∧ ∀ i, i < 13 → vf_n64 (FP.dadd (a i) (dv dec.toNatClampNeg i))) : Ct l dC dI tt yM_back bM_back 6 (some .boolean) ({ frames := 1, cells := 0, slots := 0, locals := 29 }) (tM cA) [.ref (ad 0), .int dec, .double d] (wM ad cA a dv ib ac hs ht hc hn rv ra (nI kd) nw Tm Ac ts gt lt) sz (fun A => ctQc dC dI (tM cA) (bkOK ib (nI kd) dec d) 1 (wM ad cA (bkA a (dv dec.toNatClampNeg) 13) dv (upd ib dec.toNatClampNeg 1) ac hs ht hc hn rv ra (nI kd) nw (mixD Tm (a 0) d (dv dec.toNatClampNeg 0)) Ac ts gt lt) 0 (wM ad cA a dv ib ac hs ht hc hn rv ra (nI kd) nw Tm Ac ts gt lt) A) := by
  refine ct_of (by decide) (Nat.le_of_ble_eq_true rfl) ?_
  intro p e s m below meth c A ls hx hb hr hts hown hml hlocks hnm hA hS hP hK hD hT hl
  have hl : lv_has ls 6 [(0, .ref (ad 0)), (1, .int dec), (2, .double d)] := hl
  refine lv_iload_n hx hb dM_back_0 rfl (lv_at hl 1 rfl) ?_
  refine lv_if_lt (tgt := 28) hx hb dM_back_1 (by decide) (fun c_1 => ?_) (fun c_1 => ?_)
  · refine lv_iconst (v := 0) hx hb dM_back_28 (by decide) ?_
    exact ct_ret0 hx hb hr rfl hlocks hP hK hD hS (fun h => Int32.not_lt.mpr h.1 c_1) rfl dM_back_29
  · have h_0 := (c_1 : ¬ dec < 0)
    refine lv_iload_n hx hb dM_back_4 rfl (lv_at hl 1 rfl) ?_
    refine lv_aload_n hx hb dM_back_5 rfl (lv_at hl 0 rfl) ?_
    refine va_get (D := (dC, dI)) (ci := 0) (v := .int (nI kd)) (C := "MashEnzymes") (T := F_M) (N := 13) hx hb hts in_M hown hK hP 0 rfl rfl 6 (by decide) (hts _ tw_f_M_100) (fun _ h9 => h9) rfl dM_back_6 ?_
    refine lv_icmp_ge (tgt := 28) hx hb dM_back_9 (by decide) (fun c_2 => ?_) (fun c_2 => ?_)
    · refine lv_iconst (v := 0) hx hb dM_back_28 (by decide) ?_
      exact ct_ret0 hx hb hr rfl hlocks hP hK hD hS (fun h => Int32.not_lt.mpr c_2 h.2.1) rfl dM_back_29
    · have h_1 := (Int32.not_le.mp c_2 : dec < nI kd)
      obtain ⟨k, hk, rfl⟩ := nI_of (x := dec) h_0
      have hkd : k < kd := (nI_ltI hk (by omega)).mp h_1
      have hk8 : k < 8 := by omega
      have hkc : (nI k).toNatClampNeg = k := nI_clamp hk
      refine lv_aload_n hx hb dM_back_12 rfl (lv_at hl 0 rfl) ?_
      refine va_get (D := (dC, dI)) (ci := 0) (v := .ref (ad 3)) (C := "MashEnzymes") (T := F_M) (N := 13) hx hb hts in_M hown hK hP 0 rfl rfl 2 (by decide) (hts _ tw_f_M_18) (fun _ h9 => h9) rfl dM_back_13 ?_
      refine lv_iload_n hx hb dM_back_16 rfl (lv_at hl 1 rfl) ?_
      refine va_zald hx hb hK hP 3 2 rfl rfl (vp_in_nI hk8 (by decide)) dM_back_17 ?_
      rw [hkc]
      refine lv_if_ne (tgt := 28) hx hb dM_back_18 (by decide) (fun c_3 => ?_) (fun c_3 => ?_)
      · refine lv_iconst (v := 0) hx hb dM_back_28 (by decide) ?_
        exact ct_ret0 hx hb hr rfl hlocks hP hK hD hS (fun h => c_3 (by have := h.2.2.1; rwa [hkc] at this)) rfl dM_back_29
      · have h_2 : ib k = 0 := c_3
        refine lv_dload_n hx hb dM_back_21 rfl (lv_at hl 2 rfl) ?_
        refine ct_csc (As := [.double d]) (rest := []) (wr := (wM ad cA a dv ib ac hs ht hc hn rv ra (nI kd) nw Tm Ac ts gt lt)) ⟨hx, hb, hml, hown, hts⟩ (cM_isTemperature l dC dI tt _ d) (gT_S tw_m_M_62 tw_st_yM_isTemperature tw_I_M tw_c_yM_isTemperature) ⟨by decide +kernel, by decide +kernel, (by decide +kernel : (parseMethodDescriptor yM_isTemperature.desc).map (fun d => d.parameters.length) = some 1)⟩ ⟨by decide, by decide⟩ hP hD hK hS hA hT [0, 1, 2, 3, 4, 5, 6, 7, 8, 9, 10, 11, 12, 13, 14, 15, 16, 17] rfl (by decide) hl.1 rfl (Nat.le_of_ble_eq_true rfl) dM_back_22 ⟨by decide, by decide⟩ (fun c_4 H locs hP hD hS => ?_) (fun c_4 H locs hP hD hS => ?_)
        · have hP : va_P (dC, dI) cls (wM ad cA a dv ib ac hs ht hc hn rv ra (nI kd) nw Tm Ac ts gt lt) H := hP
          have hD : va_D A (wM ad cA a dv ib ac hs ht hc hn rv ra (nI kd) nw Tm Ac ts gt lt) := hD
          refine lv_if_ne (tgt := 30) hx hb dM_back_25 (by decide) (fun c_5 => ?_) (fun c_5 => ?_)
          · have hbk : bkOK ib (nI kd) (nI k) d := ⟨Int32.not_lt.mp h_0, h_1, by rw [hkc]; exact h_2, c_4⟩
            have hok9 := hok hbk
            rw [hkc] at hok9
            refine lv_aload_n hx hb dM_back_30 rfl (lv_at hl 0 rfl) ?_
            refine va_get (D := (dC, dI)) (ci := 0) (v := .ref (ad 2)) (C := "MashEnzymes") (T := F_M) (N := 13) hx hb hts in_M hown hK hP 0 rfl rfl 1 (by decide) (hts _ tw_f_M_15) (fun _ h9 => h9) rfl dM_back_31 ?_
            refine lv_iload_n hx hb dM_back_34 rfl (lv_at hl 1 rfl) ?_
            refine mg_ald hx hb hK hP 2 1 rfl rfl (vp_in_nI hk8 (by decide)) dM_back_35 ?_
            refine ct_topv (y := .ref (ad (k + 10))) (by rw [hkc]; exact congrArg va_rf (if_pos hk8)) ?_
            refine lv_astore (lv' := [(4, .ref (ad (k + 10))), (0, .ref (ad 0)), (1, .int (nI k)), (2, .double d)]) hx hb dM_back_36 hl (by decide) rfl (fun ls hl => ?_)
            refine lv_aload_n hx hb dM_back_38 rfl (lv_at hl 1 rfl) ?_
            refine lv_aload_n hx hb dM_back_39 rfl (lv_at hl 1 rfl) ?_
            refine va_get (D := (dC, dI)) (ci := 0) (v := .double Tm) (C := "MashEnzymes") (T := F_M) (N := 13) hx hb hts in_M hown hK hP 0 rfl rfl 8 (by decide) (hts _ tw_f_M_68) (fun _ h9 => h9) rfl dM_back_40 ?_
            refine lv_aload_n hx hb dM_back_43 rfl (lv_at hl 1 rfl) ?_
            refine va_get (D := (dC, dI)) (ci := 0) (v := .ref (ad 1)) (C := "MashEnzymes") (T := F_M) (N := 13) hx hb hts in_M hown hK hP 0 rfl rfl 0 (by decide) (hts _ tw_f_M_9) (fun _ h9 => h9) rfl dM_back_44 ?_
            refine lv_iconst (v := 0) hx hb dM_back_47 (by decide) ?_
            refine ct_dald (k := 0) (v := a 0) hx hb hK hP 1 0 rfl rfl (by unfold vp_in; decide) (rfl) (rfl) dM_back_48 ?_
            refine lv_dload_n hx hb dM_back_49 rfl (lv_at hl 3 rfl) ?_
            refine lv_aload hx hb dM_back_50 (lv_at hl 0 rfl) ?_
            refine lv_iconst (v := 0) hx hb dM_back_52 (by decide) ?_
            refine ct_dald (k := 0) (v := dv k 0) hx hb hK hP (10 + k) 7 (wM_dec hk8) rfl (by unfold vp_in; decide) (rfl) (rfl) dM_back_53 ?_
            refine ct_csd (As := [.double Tm, .double (a 0), .double d, .double (dv k 0)]) (rest := [.ref (ad 0)]) (wr := (wM ad cA a dv ib ac hs ht hc hn rv ra (nI kd) nw Tm Ac ts gt lt)) ⟨hx, hb, hml, hown, hts⟩ (cM_mixed l dC dI tt _ Tm (a 0) d (dv k 0) hok9.1) (gT_S tw_m_M_71 tw_st_yM_mixed tw_I_M tw_c_yM_mixed) ⟨by decide +kernel, by decide +kernel, (by decide +kernel : (parseMethodDescriptor yM_mixed.desc).map (fun d => d.parameters.length) = some 4)⟩ ⟨by decide, by decide⟩ hP hD hK hS hA hT [0, 1, 2, 3, 4, 5, 6, 7, 8, 9, 10, 11, 12, 13, 14, 15, 16, 17] rfl (by decide) hl.1 rfl (Nat.le_of_ble_eq_true rfl) dM_back_54 ⟨by decide, by decide⟩ (fun H locs hP hD hS => ?_)
            refine va_put (D := (dC, dI)) (ci := 0) (v := .double (mixD Tm (a 0) d (dv k 0))) (ty := .double) (C := "MashEnzymes") (T := F_M) (N := 13) hx hb hts in_M t_M t_M_ok n_M hown hK hP hD hS 0 rfl rfl 8 (by decide) (hts _ tw_f_M_68) (fun _ h9 => h9) rfl (by decide +kernel) rfl rfl (Nat.le_of_ble_eq_true rfl) dM_back_57 (fun H locs hP hD hS => ?_)
            have hP : va_P (dC, dI) cls (wM ad cA a dv ib ac hs ht hc hn rv ra (nI kd) nw (mixD Tm (a 0) d (dv k 0)) Ac ts gt lt) H := hP
            have hD : va_D A (wM ad cA a dv ib ac hs ht hc hn rv ra (nI kd) nw (mixD Tm (a 0) d (dv k 0)) Ac ts gt lt) := hD
            refine lv_iconst (v := 0) hx hb dM_back_60 (by decide) ?_
            refine ct_topi (y := nI 0) (rfl) ?_
            refine lv_istore (lv' := [(5, .int (nI 0)), (4, .ref (ad (k + 10))), (0, .ref (ad 0)), (1, .int (nI k)), (2, .double d)]) hx hb dM_back_61 hl (by decide) rfl (fun ls hl => ?_)
            have key : ∀ (n i : Nat) (ls : Array Slot) (H : Heap) (locs : List Loc), n + i = 13 → va_P (dC, dI) cls (wM ad cA (bkA a (dv k) i) dv ib ac hs ht hc hn rv ra (nI kd) nw (mixD Tm (a 0) d (dv k 0)) Ac ts gt lt) H → va_D A (wM ad cA (bkA a (dv k) i) dv ib ac hs ht hc hn rv ra (nI kd) nw (mixD Tm (a 0) d (dv k 0)) Ac ts gt lt) → va_S A s.heap H locs → lv_has ls 6 [(5, .int (nI i)), (4, .ref (ad (k + 10))), (1, .int (nI k)), (0, .ref (ad 0))] → W p l e ({ frames := 1, cells := 0, slots := 0, locals := 29 } : Room) s m ([.ref (ad 0), .int (nI k), .double d] : List Value).toArray below meth c H locs 0 0 (MQ below (ctQc dC dI (tM cA) (bkOK ib (nI kd) (nI k) d) 1 (wM ad cA (bkA a (dv k) 13) dv (upd ib k 1) ac hs ht hc hn rv ra (nI kd) nw (mixD Tm (a 0) d (dv k 0)) Ac ts gt lt) 0 (wM ad cA a dv ib ac hs ht hc hn rv ra (nI kd) nw Tm Ac ts gt lt) A) ([.ref (ad 0), .int (nI k), .double d] : List Value).toArray s 0 0 A) (F0 m 63 ls []) := by
              intro n
              induction n with
              | zero =>
                intro i ls H locs hni hP hD hS hl
                refine lv_iload hx hb dM_back_63 (lv_at hl 0 rfl) ?_
                refine lv_bipush (v := 13) hx hb dM_back_65 (by decide) ?_
                refine lv_icmp_ge (tgt := 96) hx hb dM_back_67 (by decide) (fun c_6 => ?_) (fun c_6 => ?_)
                · have hi : i = 13 := by omega
                  subst hi
                  refine lv_aload_n hx hb dM_back_96 rfl (lv_at hl 3 rfl) ?_
                  refine va_get (D := (dC, dI)) (ci := 0) (v := .ref (ad 3)) (C := "MashEnzymes") (T := F_M) (N := 13) hx hb hts in_M hown hK hP 0 rfl rfl 2 (by decide) (hts _ tw_f_M_18) (fun _ h9 => h9) rfl dM_back_97 ?_
                  refine lv_iload_n hx hb dM_back_100 rfl (lv_at hl 2 rfl) ?_
                  refine lv_iconst (v := 1) hx hb dM_back_101 (by decide) ?_
                  refine va_zast hx hb hK hP hD hS 3 2 rfl rfl (vp_in_nI hk8 (by decide)) dM_back_102 (fun H locs hP hD hS => ?_)
                  rw [hkc] at hP hD
                  have hP : va_P (dC, dI) cls (wM ad cA (bkA a (dv k) 13) dv (upd ib k 1) ac hs ht hc hn rv ra (nI kd) nw (mixD Tm (a 0) d (dv k 0)) Ac ts gt lt) H := hP
                  have hD : va_D A (wM ad cA (bkA a (dv k) 13) dv (upd ib k 1) ac hs ht hc hn rv ra (nI kd) nw (mixD Tm (a 0) d (dv k 0)) Ac ts gt lt) := hD
                  refine lv_iconst (v := 1) hx hb dM_back_103 (by decide) ?_
                  exact ct_ret1 hx hb hr rfl hlocks hP hK hD hS hbk rfl dM_back_104
                · exact absurd (nI_le (a := 13) (b := i) (by omega) (by omega)) c_6
              | succ n ih =>
                intro i ls H locs hni hP hD hS hl
                refine lv_iload hx hb dM_back_63 (lv_at hl 0 rfl) ?_
                refine lv_bipush (v := 13) hx hb dM_back_65 (by decide) ?_
                refine lv_icmp_ge (tgt := 96) hx hb dM_back_67 (by decide) (fun c_7 => ?_) (fun c_7 => ?_)
                · exact absurd ((nI_leI (a := 13) (b := i) (by decide) (by omega)).mp c_7) (by omega)
                · have hi : i < 13 := by omega
                  refine lv_aload_n hx hb dM_back_70 rfl (lv_at hl 3 rfl) ?_
                  refine va_get (D := (dC, dI)) (ci := 0) (v := .ref (ad 1)) (C := "MashEnzymes") (T := F_M) (N := 13) hx hb hts in_M hown hK hP 0 rfl rfl 0 (by decide) (hts _ tw_f_M_9) (fun _ h9 => h9) rfl dM_back_71 ?_
                  refine lv_iload hx hb dM_back_74 (lv_at hl 0 rfl) ?_
                  refine lv_aload_n hx hb dM_back_76 rfl (lv_at hl 3 rfl) ?_
                  refine va_get (D := (dC, dI)) (ci := 0) (v := .ref (ad 1)) (C := "MashEnzymes") (T := F_M) (N := 13) hx hb hts in_M hown hK hP 0 rfl rfl 0 (by decide) (hts _ tw_f_M_9) (fun _ h9 => h9) rfl dM_back_77 ?_
                  refine lv_iload hx hb dM_back_80 (lv_at hl 0 rfl) ?_
                  refine ct_dald (k := i) (v := a i) hx hb hK hP 1 0 rfl rfl (vp_in_nI (by omega) (by decide)) (nI_clamp (by omega)) (bkA_at a (dv k) i) dM_back_82 ?_
                  refine lv_aload hx hb dM_back_83 (lv_at hl 1 rfl) ?_
                  refine lv_iload hx hb dM_back_85 (lv_at hl 0 rfl) ?_
                  refine ct_dald (k := i) (v := dv k i) hx hb hK hP (10 + k) 7 (wM_dec hk8) rfl (vp_in_nI (by omega) (by decide)) (nI_clamp (by omega)) (rfl) dM_back_87 ?_
                  refine lv_dadd hx hb dM_back_88 (hok9.2 i hi) ?_
                  refine ct_dast (k := i) (w1 := (wM ad cA (bkA a (dv k) (i + 1)) dv ib ac hs ht hc hn rv ra (nI kd) nw (mixD Tm (a 0) d (dv k 0)) Ac ts gt lt)) hx hb hK hP hD hS 1 0 rfl rfl (vp_in_nI (by omega) (by decide)) (nI_clamp (by omega)) (by rw [← bkA_s]; rfl) dM_back_89 (fun H locs hP hD hS => ?_)
                  refine lv_iinc (v := (nI (i + 1))) (lv' := [(5, .int (nI (i + 1))), (4, .ref (ad (k + 10))), (1, .int (nI k)), (0, .ref (ad 0))]) hx hb dM_back_90 hl (k := 0) rfl (nI_1 i) (by decide) rfl (fun ls hl => ?_)
                  refine lv_goto (tgt := 63) hx hb dM_back_93 (by decide) ?_
                  exact ih (i + 1) ls H locs (by omega) hP hD hS (lv_sub hl [0, 1, 2, 3] rfl)
            have hP : va_P (dC, dI) cls (wM ad cA (bkA a (dv k) 0) dv ib ac hs ht hc hn rv ra (nI kd) nw (mixD Tm (a 0) d (dv k 0)) Ac ts gt lt) _ := (by rw [bkA_0]; exact hP)
            have hD : va_D A (wM ad cA (bkA a (dv k) 0) dv ib ac hs ht hc hn rv ra (nI kd) nw (mixD Tm (a 0) d (dv k 0)) Ac ts gt lt) := (by rw [bkA_0]; exact hD)
            exact key 13 0 ls _ _ rfl hP hD hS (lv_sub hl [0, 1, 3, 2] rfl)
          · exact (absurd c_5 (by decide))
        · have hP : va_P (dC, dI) cls (wM ad cA a dv ib ac hs ht hc hn rv ra (nI kd) nw Tm Ac ts gt lt) H := hP
          have hD : va_D A (wM ad cA a dv ib ac hs ht hc hn rv ra (nI kd) nw Tm Ac ts gt lt) := hD
          refine lv_if_ne (tgt := 30) hx hb dM_back_25 (by decide) (fun c_8 => ?_) (fun c_8 => ?_)
          · exact absurd rfl c_8
          · refine lv_iconst (v := 0) hx hb dM_back_28 (by decide) ?_
            exact ct_ret0 hx hb hr rfl hlocks hP hK hD hS (fun h => c_4 h.2.2.2) rfl dM_back_29
end
section
/-! the reference -/
theorem mkN_lt {T : UInt64} (hT : ft_P T) : ∀ n j, n + j = 8 → mkN T n j < 8 → ft_z T < ft_z (FP.i2d (nI (tb_MD (mkN T n j + 1))))
  | 0, j, h, h8 => by unfold mkN at h8; omega
  | n + 1, j, h, h8 => by
    unfold mkN at h8 ⊢
    split
    · rename_i h1
      exact (ft_gt (md_P (by omega)) hT).mp h1
    · rename_i h1
      rw [if_neg h1] at h8
      exact mkN_lt hT n (j + 1) (by omega) h8
theorem md_mono : ∀ i, i < 9 → ∀ j, j < 9 → i ≤ j → tb_MD i ≤ tb_MD j := by decide
theorem md_90 : FP.i2d (nI (tb_MD 8)) = 4636033603912859648 := by decide +kernel
theorem mk_8 {T : UInt64} (hT : ft_P T) (h : ¬ FP.dcmp T 4636033603912859648 = some .lt) : mk T = 8 := by
  rw [← md_90, ft_lt hT (md_P (by decide))] at h
  have h1 := mk_le T
  refine Nat.le_antisymm h1 (Nat.le_of_not_lt fun h2 => h ?_)
  refine Nat.lt_of_lt_of_le (mkN_lt hT 8 0 rfl h2) ?_
  rw [(md_all (mkN T 8 0 + 1) (by unfold mk at h2; omega)).2, (md_all 8 (by decide)).2]
  exact Nat.mul_le_mul_right _ (md_mono _ (by unfold mk at h2; omega) 8 (by decide) (by unfold mk at h2; omega))
theorem mk_n8 {T : UInt64} (hT : ft_P T) (h : FP.dcmp T 4636033603912859648 = some .lt) : mk T < 8 := by
  rw [← md_90, ft_lt hT (md_P (by decide))] at h
  refine Nat.lt_of_le_of_ne (mk_le T) fun h2 => ?_
  have := (mk_in hT).1
  rw [h2] at this
  omega
theorem ft_nlt0 {T : UInt64} (hT : ft_P T) : FP.dcmp T 0 ≠ some .lt := by
  rw [Ne, ft_lt hT ft_0P, ft_0z]
  exact Nat.not_lt_zero _
/-- the reference's rows, by the class' -/
def rmp (r : Nat) : Nat := if r < 4 then r else if r = 4 then 8 else r - 1
theorem rmp_tb : ∀ r, r < 9 → ∀ j, j < 9 → tb_RW (9 * r + j) = tb_TB (rmp r * 9 + j) := by decide +kernel
theorem rmp_pt : ∀ r, r < 9 → (r < 4 ↔ rmp r < 4) := by decide +kernel
theorem rmp_lt : ∀ r, r < 9 → rmp r < 9 := by decide +kernel
theorem tvN {r j : Nat} {pt : UInt64} (hr : r < 9) (hj : j < 9) (hpt : pt = if rmp r < 4 then 4620693217682128896 else 4661225614328463360) : FP.ddiv (FP.i2d (nI (tb_RW (9 * r + j)))) pt = tv (rmp r) j := by
  unfold tv
  rw [rmp_tb r hr j hj, hpt]
set_option maxHeartbeats 4000000 in
set_option maxRecDepth 100000 in
/-- a row at the mash's temperature -/
theorem cN_row (l : Launch) (dC : Nat → ClassId) (dI : Nat → Nat → Nat) (tt : Nat → Nat) (sz : Nat) (ad : Nat → Nat) (cA : Nat → ClassId) (a : Nat → UInt64) (Tm Ac : UInt64) (gt lt : Int32) (ts : UInt64) (nw st : Int32) (hs : Nat → Int32) (ht : Nat → UInt64) (dc : Int32) (pa : Nat → UInt64) (ib : Nat → Int32) (ac : Nat → UInt64) (r : Nat) (hr9 : r < 9) (hTm : ft_P Tm) : Ct l dC dI tt yN_row bN_row 9 (some .double) ({ frames := 0, cells := 0, slots := 0, locals := 0 }) (tN cA) [.ref (ad 0), .int (nI r)] (wN ad cA a Tm Ac gt lt ts nw st hs ht dc pa ib ac) sz (fun A => ctQd dC dI (tN cA) (rwv Tm (rmp r) (mk Tm)) (wN ad cA a Tm Ac gt lt ts nw st hs ht dc pa ib ac) A) := by
  refine ct_of (by decide) (Nat.le_of_ble_eq_true rfl) ?_
  intro p e s m below meth c A ls hx hb hr hts hown hml hlocks hnm hA hS hP hK hD hT hl
  have hl : lv_has ls 9 [(0, .ref (ad 0)), (1, .int (nI r))] := hl
  have hr9m := rmp_lt r hr9
  have key15 : ∀ (pt : UInt64) (hpt : pt = if rmp r < 4 then 4620693217682128896 else 4661225614328463360) (ls : Array Slot) (H : Heap) (locs : List Loc), va_P (dC, dI) cls (wN ad cA a Tm Ac gt lt ts nw st hs ht dc pa ib ac) H → va_D A (wN ad cA a Tm Ac gt lt ts nw st hs ht dc pa ib ac) → va_S A s.heap H locs → lv_has ls 9 [(2, .double pt), (1, .int (nI r)), (0, .ref (ad 0))] → W p l e ({ frames := 0, cells := 0, slots := 0, locals := 0 } : Room) s m ([.ref (ad 0), .int (nI r)] : List Value).toArray below meth c H locs 0 0 (MQ below (ctQd dC dI (tN cA) (rwv Tm (rmp r) (mk Tm)) (wN ad cA a Tm Ac gt lt ts nw st hs ht dc pa ib ac) A) ([.ref (ad 0), .int (nI r)] : List Value).toArray s 0 0 A) (F0 m 15 ls []) := by
    intro pt hpt ls H locs hP hD hS hl
    refine lv_aload_n hx hb dN_row_15 rfl (lv_at hl 2 rfl) ?_
    refine va_get (D := (dC, dI)) (ci := 3) (v := .double Tm) (C := "MashEnzymesModel") (T := F_N) (N := 14) hx hb hts in_N hown hK hP 0 rfl rfl 1 (by decide) (hts _ tw_f_N_62) (fun _ h9 => h9) rfl dN_row_16 ?_
    refine lv_dconst0 hx hb dN_row_19 ?_
    refine ct_topd (y := 0) rfl ?_
    refine lv_dcmp hx hb dN_row_20 ?_
    refine lv_if_ge (tgt := 36) hx hb dN_row_21 (by decide) (fun c_1 => ?_) (fun c_1 => ?_)
    · refine lv_aload_n hx hb dN_row_36 rfl (lv_at hl 2 rfl) ?_
      refine va_get (D := (dC, dI)) (ci := 3) (v := .double Tm) (C := "MashEnzymesModel") (T := F_N) (N := 14) hx hb hts in_N hown hK hP 0 rfl rfl 1 (by decide) (hts _ tw_f_N_62) (fun _ h9 => h9) rfl dN_row_37 ?_
      refine lv_ldc2d hx hb hown (hts _ tw_d_N_84) dN_row_40 ?_
      refine lv_dcmp hx hb dN_row_43 ?_
      refine lv_if_lt (tgt := 62) hx hb dN_row_44 (by decide) (fun c_2 => ?_) (fun c_2 => ?_)
      · have hm8 : mk Tm < 8 := mk_n8 hTm ((cvn_l (by rw [← md_90]; exact ft_some hTm (md_P (by decide)))).mp c_2)
        have hok := rw_ok hTm hr9m hm8
        have key9 : ∀ (n j : Nat) (ls : Array Slot), n + j = 8 → mkN Tm n j = mk Tm → lv_has ls 9 [(4, .int (nI j)), (2, .double pt), (1, .int (nI r)), (0, .ref (ad 0))] → W p l e ({ frames := 0, cells := 0, slots := 0, locals := 0 } : Room) s m ([.ref (ad 0), .int (nI r)] : List Value).toArray below meth c H locs 0 0 (MQ below (ctQd dC dI (tN cA) (rwv Tm (rmp r) (mk Tm)) (wN ad cA a Tm Ac gt lt ts nw st hs ht dc pa ib ac) A) ([.ref (ad 0), .int (nI r)] : List Value).toArray s 0 0 A) (F0 m 65 ls []) := by
          intro n
          induction n with
          | zero =>
            intro j ls hn9 hm hl
            have hj9 : j = mk Tm := hm
            omega
          | succ n ih =>
            intro j ls hn9 hm hl
            refine lv_aload_n hx hb dN_row_65 rfl (lv_at hl 3 rfl) ?_
            refine va_get (D := (dC, dI)) (ci := 3) (v := .double Tm) (C := "MashEnzymesModel") (T := F_N) (N := 14) hx hb hts in_N hown hK hP 0 rfl rfl 1 (by decide) (hts _ tw_f_N_62) (fun _ h9 => h9) rfl dN_row_66 ?_
            refine va_gets hx hb hT.2.2.2.2.1.1 hS hown (hts _ tw_f_N_86) (fun _ h9 => h9) dN_row_69 ?_
            refine lv_iload hx hb dN_row_72 (lv_at hl 0 rfl) ?_
            refine lv_iconst (v := 1) hx hb dN_row_74 (by decide) ?_
            refine lv_iadd hx hb dN_row_75 ?_
            refine ct_topi (y := nI (j + 1)) (nI_1 j) ?_
            refine ct_tab (k := (j + 1)) (v := nI (tb_MD (j + 1))) hx hb hT.2.2.2.2.1 hS (vp_in_nI (by omega) (by decide)) (nI_clamp (by omega)) (rfl) dN_row_76 ?_
            refine lv_i2d hx hb dN_row_77 ?_
            refine lv_dcmp hx hb dN_row_78 ?_
            refine lv_if_lt (tgt := 88) hx hb dN_row_79 (by decide) (fun c_3 => ?_) (fun c_3 => ?_)
            · have hlt := (cvn_l (ft_some hTm (md_P (by omega)))).mp c_3
              have hg : FP.dcmp (FP.i2d (nI (tb_MD (j + 1)))) Tm = some .gt := by rw [ft_gt (md_P (by omega)) hTm]; exact (ft_lt hTm (md_P (by omega))).mp hlt
              have hj9 : j = mk Tm := by unfold mkN at hm; rw [if_pos hg] at hm; exact hm
              subst hj9
              refine va_gets hx hb hT.2.2.2.2.2.1 hS hown (hts _ tw_f_N_81) (fun _ h9 => h9) dN_row_88 ?_
              refine lv_bipush (v := 9) hx hb dN_row_91 (by decide) ?_
              refine lv_iload_n hx hb dN_row_93 rfl (lv_at hl 2 rfl) ?_
              refine lv_imul hx hb dN_row_94 ?_
              refine ct_topi (y := nI (9 * r)) (by rw [show (9 : Int32) = nI 9 from rfl, pk_mul]) ?_
              refine lv_iload hx hb dN_row_95 (lv_at hl 0 rfl) ?_
              refine lv_iadd hx hb dN_row_97 ?_
              refine ct_topi (y := nI (9 * r + mk Tm)) (nI_add _ _) ?_
              refine ct_tab (k := (9 * r + mk Tm)) (v := nI (tb_RW (9 * r + mk Tm))) hx hb hT.2.2.2.2.2 hS (vp_in_nI (by omega) (by decide)) (nI_clamp (by omega)) (rfl) dN_row_98 ?_
              refine lv_i2d hx hb dN_row_99 ?_
              refine lv_dload_n hx hb dN_row_100 rfl (lv_at hl 1 rfl) ?_
              refine lv_ddiv hx hb dN_row_101 (by rw [tvN hr9 (by omega) hpt]; exact (tv_P hr9m (by omega)).n) ?_
              refine ct_topd (y := tv (rmp r) (mk Tm)) (tvN hr9 (by omega) hpt) ?_
              refine lv_dstore (lv' := [(5, .double (tv (rmp r) (mk Tm))), (4, .int (nI (mk Tm))), (2, .double pt), (1, .int (nI r)), (0, .ref (ad 0))]) hx hb dN_row_102 hl (by decide) rfl (fun ls hl => ?_)
              refine va_gets hx hb hT.2.2.2.2.2.1 hS hown (hts _ tw_f_N_81) (fun _ h9 => h9) dN_row_104 ?_
              refine lv_bipush (v := 9) hx hb dN_row_107 (by decide) ?_
              refine lv_iload_n hx hb dN_row_109 rfl (lv_at hl 3 rfl) ?_
              refine lv_imul hx hb dN_row_110 ?_
              refine ct_topi (y := nI (9 * r)) (by rw [show (9 : Int32) = nI 9 from rfl, pk_mul]) ?_
              refine lv_iload hx hb dN_row_111 (lv_at hl 1 rfl) ?_
              refine lv_iadd hx hb dN_row_113 ?_
              refine ct_topi (y := nI (9 * r + mk Tm)) (nI_add _ _) ?_
              refine lv_iconst (v := 1) hx hb dN_row_114 (by decide) ?_
              refine lv_iadd hx hb dN_row_115 ?_
              refine ct_topi (y := nI (9 * r + (mk Tm + 1))) (nI_1 _) ?_
              refine ct_tab (k := (9 * r + (mk Tm + 1))) (v := nI (tb_RW (9 * r + (mk Tm + 1)))) hx hb hT.2.2.2.2.2 hS (vp_in_nI (by omega) (by decide)) (nI_clamp (by omega)) (rfl) dN_row_116 ?_
              refine lv_i2d hx hb dN_row_117 ?_
              refine lv_dload_n hx hb dN_row_118 rfl (lv_at hl 2 rfl) ?_
              refine lv_ddiv hx hb dN_row_119 (by rw [tvN hr9 (by omega) hpt]; exact (tv_P hr9m (by omega)).n) ?_
              refine ct_topd (y := tv (rmp r) (mk Tm + 1)) (tvN hr9 (by omega) hpt) ?_
              refine lv_dstore (lv' := [(7, .double (tv (rmp r) (mk Tm + 1))), (5, .double (tv (rmp r) (mk Tm))), (4, .int (nI (mk Tm))), (2, .double pt), (1, .int (nI r)), (0, .ref (ad 0))]) hx hb dN_row_120 hl (by decide) rfl (fun ls hl => ?_)
              refine lv_dload hx hb dN_row_122 (lv_at hl 1 rfl) ?_
              refine lv_dload hx hb dN_row_124 (lv_at hl 0 rfl) ?_
              refine lv_dload hx hb dN_row_126 (lv_at hl 1 rfl) ?_
              refine lv_dsub hx hb dN_row_128 (hok.1) ?_
              refine lv_aload_n hx hb dN_row_129 rfl (lv_at hl 5 rfl) ?_
              refine va_get (D := (dC, dI)) (ci := 3) (v := .double Tm) (C := "MashEnzymesModel") (T := F_N) (N := 14) hx hb hts in_N hown hK hP 0 rfl rfl 1 (by decide) (hts _ tw_f_N_62) (fun _ h9 => h9) rfl dN_row_130 ?_
              refine va_gets hx hb hT.2.2.2.2.1.1 hS hown (hts _ tw_f_N_86) (fun _ h9 => h9) dN_row_133 ?_
              refine lv_iload hx hb dN_row_136 (lv_at hl 2 rfl) ?_
              refine ct_tab (k := (mk Tm)) (v := nI (tb_MD (mk Tm))) hx hb hT.2.2.2.2.1 hS (vp_in_nI (by omega) (by decide)) (nI_clamp (by omega)) (rfl) dN_row_138 ?_
              refine lv_i2d hx hb dN_row_139 ?_
              refine lv_dsub hx hb dN_row_140 (hok.2.1) ?_
              refine lv_dmul hx hb dN_row_141 (hok.2.2.1) ?_
              refine va_gets hx hb hT.2.2.2.2.1.1 hS hown (hts _ tw_f_N_86) (fun _ h9 => h9) dN_row_142 ?_
              refine lv_iload hx hb dN_row_145 (lv_at hl 2 rfl) ?_
              refine lv_iconst (v := 1) hx hb dN_row_147 (by decide) ?_
              refine lv_iadd hx hb dN_row_148 ?_
              refine ct_topi (y := nI (mk Tm + 1)) (nI_1 _) ?_
              refine ct_tab (k := (mk Tm + 1)) (v := nI (tb_MD (mk Tm + 1))) hx hb hT.2.2.2.2.1 hS (vp_in_nI (by omega) (by decide)) (nI_clamp (by omega)) (rfl) dN_row_149 ?_
              refine va_gets hx hb hT.2.2.2.2.1.1 hS hown (hts _ tw_f_N_86) (fun _ h9 => h9) dN_row_150 ?_
              refine lv_iload hx hb dN_row_153 (lv_at hl 2 rfl) ?_
              refine ct_tab (k := (mk Tm)) (v := nI (tb_MD (mk Tm))) hx hb hT.2.2.2.2.1 hS (vp_in_nI (by omega) (by decide)) (nI_clamp (by omega)) (rfl) dN_row_155 ?_
              refine lv_isub hx hb dN_row_156 ?_
              refine lv_i2d hx hb dN_row_157 ?_
              refine lv_ddiv hx hb dN_row_158 (hok.2.2.2.1) ?_
              refine lv_dadd hx hb dN_row_159 (hok.2.2.2.2.1.n) ?_
              exact ct_dret hx hb hr hlocks hP hK hD hS (by unfold rwv; rw [if_pos hm8]) dN_row_160
            · have hg : ¬ FP.dcmp (FP.i2d (nI (tb_MD (j + 1)))) Tm = some .gt := fun h => c_3 ((cvn_l (ft_some hTm (md_P (by omega)))).mpr (by rw [ft_lt hTm (md_P (by omega))]; exact (ft_gt (md_P (by omega)) hTm).mp h))
              unfold mkN at hm
              rw [if_neg hg] at hm
              refine lv_iinc (v := (nI (j + 1))) (lv' := [(4, .int (nI (j + 1))), (2, .double pt), (1, .int (nI r)), (0, .ref (ad 0))]) hx hb dN_row_82 hl (k := 0) rfl (nI_1 j) (by decide) rfl (fun ls hl => ?_)
              refine lv_goto (tgt := 65) hx hb dN_row_85 (by decide) ?_
              exact ih (j + 1) ls (by omega) hm (lv_sub hl [0, 1, 2, 3] rfl)
        refine lv_iconst (v := 0) hx hb dN_row_62 (by decide) ?_
        refine ct_topi (y := nI 0) (rfl) ?_
        refine lv_istore (lv' := [(4, .int (nI 0)), (2, .double pt), (1, .int (nI r)), (0, .ref (ad 0))]) hx hb dN_row_63 hl (by decide) rfl (fun ls hl => ?_)
        exact key9 8 0 ls rfl rfl (lv_sub hl [0, 1, 2, 3] rfl)
      · have hm8 : mk Tm = 8 := mk_8 hTm fun h => c_2 ((cvn_l (by rw [← md_90]; exact ft_some hTm (md_P (by decide)))).mpr h)
        refine va_gets hx hb hT.2.2.2.2.2.1 hS hown (hts _ tw_f_N_81) (fun _ h9 => h9) dN_row_47 ?_
        refine lv_bipush (v := 9) hx hb dN_row_50 (by decide) ?_
        refine lv_iload_n hx hb dN_row_52 rfl (lv_at hl 1 rfl) ?_
        refine lv_imul hx hb dN_row_53 ?_
        refine ct_topi (y := nI (9 * r)) (by rw [show (9 : Int32) = nI 9 from rfl, pk_mul]) ?_
        refine lv_bipush (v := 8) hx hb dN_row_54 (by decide) ?_
        refine lv_iadd hx hb dN_row_56 ?_
        refine ct_topi (y := nI (9 * r + 8)) (by rw [show (8 : Int32) = nI 8 from rfl, nI_add]) ?_
        refine ct_tab (k := (9 * r + 8)) (v := nI (tb_RW (9 * r + 8))) hx hb hT.2.2.2.2.2 hS (vp_in_nI (by omega) (by decide)) (nI_clamp (by omega)) (rfl) dN_row_57 ?_
        refine lv_i2d hx hb dN_row_58 ?_
        refine lv_dload_n hx hb dN_row_59 rfl (lv_at hl 0 rfl) ?_
        refine lv_ddiv hx hb dN_row_60 (by rw [tvN hr9 (by decide) hpt]; exact (tv_P hr9m (by decide)).n) ?_
        refine ct_topd (y := tv (rmp r) 8) (tvN hr9 (by decide) hpt) ?_
        exact ct_dret hx hb hr hlocks hP hK hD hS (by unfold rwv; rw [if_neg (by omega)]) dN_row_61
    · exact (absurd ((cv_g_ge _).mpr (ft_nlt0 hTm)) c_1)
  refine lv_iload_n hx hb dN_row_0 rfl (lv_at hl 1 rfl) ?_
  refine lv_iconst (v := 4) hx hb dN_row_1 (by decide) ?_
  refine lv_icmp_ge (tgt := 11) hx hb dN_row_2 (by decide) (fun c_4 => ?_) (fun c_4 => ?_)
  · refine lv_ldc2d hx hb hown (hts _ tw_d_N_79) dN_row_11 ?_
    refine lv_dstore_n (lv' := [(2, .double 4661225614328463360), (0, .ref (ad 0)), (1, .int (nI r))]) hx hb dN_row_14 rfl hl (by decide) rfl (fun ls hl => ?_)
    exact key15 _ (by rw [if_neg (fun h => by have h1 := (rmp_pt r hr9).mpr h; have := (nI_leI (a := 4) (b := r) (by decide) (by omega)).mp c_4; omega)]) ls _ _ hP hD hS (lv_sub hl [0, 2, 1] rfl)
  · refine lv_ldc2d hx hb hown (hts _ tw_d_N_60) dN_row_5 ?_
    refine lv_goto (tgt := 14) hx hb dN_row_8 (by decide) ?_
    refine lv_dstore_n (lv' := [(2, .double 4620693217682128896), (0, .ref (ad 0)), (1, .int (nI r))]) hx hb dN_row_14 rfl hl (by decide) rfl (fun ls hl => ?_)
    exact key15 _ (by rw [if_pos ((rmp_pt r hr9).mp (Nat.lt_of_not_le fun h => c_4 ((nI_leI (a := 4) (b := r) (by decide) (by omega)).mpr h)))]) ls _ _ hP hD hS (lv_sub hl [0, 2, 1] rfl)

set_option maxHeartbeats 4000000 in
set_option maxRecDepth 100000 in
/-- empty -/
theorem cN_isEmpty (l : Launch) (dC : Nat → ClassId) (dI : Nat → Nat → Nat) (tt : Nat → Nat) (sz : Nat) (ad : Nat → Nat) (cA : Nat → ClassId) (a : Nat → UInt64) (Tm Ac : UInt64) (gt lt : Int32) (ts : UInt64) (nw st : Int32) (hs : Nat → Int32) (ht : Nat → UInt64) (dc : Int32) (pa : Nat → UInt64) (ib : Nat → Int32) (ac : Nat → UInt64) : Ct l dC dI tt yN_isEmpty bN_isEmpty 1 (some .boolean) ({ frames := 0, cells := 0, slots := 0, locals := 0 }) (tN cA) [.ref (ad 0)] (wN ad cA a Tm Ac gt lt ts nw st hs ht dc pa ib ac) sz (fun A => ctQc dC dI (tN cA) (gt = 0 ∨ lt = 0) 1 (wN ad cA a Tm Ac gt lt ts nw st hs ht dc pa ib ac) 0 (wN ad cA a Tm Ac gt lt ts nw st hs ht dc pa ib ac) A) := by
  refine ct_of (by decide) (Nat.le_of_ble_eq_true rfl) ?_
  intro p e s m below meth c A ls hx hb hr hts hown hml hlocks hnm hA hS hP hK hD hT hl
  have hl : lv_has ls 1 [(0, .ref (ad 0))] := hl
  refine lv_aload_n hx hb dN_isEmpty_0 rfl (lv_at hl 0 rfl) ?_
  refine va_get (D := (dC, dI)) (ci := 3) (v := .int gt) (C := "MashEnzymesModel") (T := F_N) (N := 14) hx hb hts in_N hown hK hP 0 rfl rfl 3 (by decide) (hts _ tw_f_N_50) (fun _ h9 => h9) rfl dN_isEmpty_1 ?_
  refine lv_if_eq (tgt := 14) hx hb dN_isEmpty_4 (by decide) (fun c_1 => ?_) (fun c_1 => ?_)
  · refine lv_iconst (v := 1) hx hb dN_isEmpty_14 (by decide) ?_
    refine lv_goto (tgt := 19) hx hb dN_isEmpty_15 (by decide) ?_
    exact ct_ret1 hx hb hr rfl hlocks hP hK hD hS (Or.inl c_1) rfl dN_isEmpty_19
  · refine lv_aload_n hx hb dN_isEmpty_7 rfl (lv_at hl 0 rfl) ?_
    refine va_get (D := (dC, dI)) (ci := 3) (v := .int lt) (C := "MashEnzymesModel") (T := F_N) (N := 14) hx hb hts in_N hown hK hP 0 rfl rfl 4 (by decide) (hts _ tw_f_N_68) (fun _ h9 => h9) rfl dN_isEmpty_8 ?_
    refine lv_if_ne (tgt := 18) hx hb dN_isEmpty_11 (by decide) (fun c_2 => ?_) (fun c_2 => ?_)
    · refine lv_iconst (v := 0) hx hb dN_isEmpty_18 (by decide) ?_
      exact ct_ret0 hx hb hr rfl hlocks hP hK hD hS (fun h => h.elim c_1 c_2) rfl dN_isEmpty_19
    · refine lv_iconst (v := 1) hx hb dN_isEmpty_14 (by decide) ?_
      refine lv_goto (tgt := 19) hx hb dN_isEmpty_15 (by decide) ?_
      exact ct_ret1 hx hb hr rfl hlocks hP hK hD hS (Or.inr c_2) rfl dN_isEmpty_19

/-- the reference's second: amounts, actions, now, T -/
abbrev SN : Type := (Nat → UInt64) × (Nat → UInt64) × Int32 × UInt64
def snT (hs : Nat → Int32) (ht : Nat → UInt64) (c0 : Nat) (u : SN) : UInt64 := heatT hs ht c0 (fst hs u.2.2.1 c0 0) u.2.2.1 u.2.2.2
def snR (hs : Nat → Int32) (ht : Nat → UInt64) (c0 : Nat) (u : SN) : Nat → UInt64 := rwA (snT hs ht c0 u) 9 (fun _ => 0)
def snC (hs : Nat → Int32) (ht : Nat → UInt64) (c0 : Nat) (A : UInt64) (u : SN) : Nat → UInt64 := actA u.1 (snR hs ht c0 u) A 4 u.2.1
def secN (hs : Nat → Int32) (ht : Nat → UInt64) (c0 : Nat) (A : UInt64) (u : SN) : SN := (sq8 u.1 (snR hs ht c0 u) (snC hs ht c0 A u), snC hs ht c0 A u, u.2.2.1 + 1, snT hs ht c0 u)
def okN (hs : Nat → Int32) (ht : Nat → UInt64) (c0 : Nat) (A : UInt64) (u : SN) : Prop := (fst hs u.2.2.1 c0 0 < c0 → okH hs ht (fst hs u.2.2.1 c0 0) u.2.2.1 u.2.2.2) ∧ ft_P (snT hs ht c0 u) ∧ okQ u.1 (snR hs ht c0 u) (snC hs ht c0 A u) A
def itN (hs : Nat → Int32) (ht : Nat → UInt64) (c0 : Nat) (A : UInt64) : Nat → SN → SN
  | 0, u => u
  | n + 1, u => secN hs ht c0 A (itN hs ht c0 A n u)
abbrev wR (ad : Nat → Nat) (cA : Nat → ClassId) (Ac : UInt64) (gt lt : Int32) (ts : UInt64) (c0 : Nat) (hs : Nat → Int32) (ht : Nat → UInt64) (dc : Int32) (pa : Nat → UInt64) (ib : Nat → Int32) (u : SN) : va_W := wN ad cA u.1 u.2.2.2 Ac gt lt ts u.2.2.1 (nI c0) hs ht dc pa ib u.2.1
theorem rwA_in (T : UInt64) {k i : Nat} (h : k < i) (rv : Nat → UInt64) : rwA T i rv k = rwv T k (mk T) := if_pos h
/-- what holds in the reference's second throughout -/
def nCx (p : Program) (s : State) (m : MethodId) (meth : Method) (c : Code) (A : Nat → Prop) (dC : Nat → ClassId) (dI : Nat → Nat → Nat) (tt : Nat → Nat) (ad : Nat → Nat) (cA : Nat → ClassId) : Prop := p.tables.exec = Jvm.exec ∧ c.code = bN_second ∧ meth.sig.returnType = none ∧ (∀ x ∈ wT, x.before ([.ref (ad 0)] : List Value).toArray s = true) ∧ s.vm.findClass "MashEnzymesModel" = some m.cls ∧ c.maxLocals = 15 ∧ meth.locks = false ∧ (∀ q : Nat, s.heap.size ≤ q → A q) ∧ va_K (dC, dI) cls (tN cA) s ∧ sT tt A s s.heap
set_option maxHeartbeats 4000000 in
set_option maxRecDepth 100000 in
theorem gN_6 {p : Program} {l : Launch} {e : Env} {s : State} {m : MethodId} {below : List Frame} {meth : Method} {c : Code} {A : Nat → Prop} {dC : Nat → ClassId} {dI : Nat → Nat → Nat} {tt : Nat → Nat} {ad : Nat → Nat} {cA : Nat → ClassId} {Q : State → Prop} (b Cc Rr : Nat → UInt64) (T Ac : UInt64) (gt lt : Int32) (ts : UInt64) (nw st : Int32) (hs : Nat → Int32) (ht : Nat → UInt64) (dc : Int32) (pa : Nat → UInt64) (ib : Nat → Int32) (C : nCx p s m meth c A dC dI tt ad cA) (h6 : ok6 b Cc) (h7 : ok7 (s6 b Cc) Cc) (k : ∀ (ls : Array Slot) (H : Heap) (locs : List Loc), va_P (dC, dI) cls (wN ad cA (s7 (s6 b Cc) Cc) T Ac gt lt ts nw st hs ht dc pa ib Cc) H → va_D A (wN ad cA (s7 (s6 b Cc) Cc) T Ac gt lt ts nw st hs ht dc pa ib Cc) → va_S A s.heap H locs → lv_has ls 15 [(14, .int (nI 0)), (0, .ref (ad 0))] → W p l e ({ frames := 1, cells := 0, slots := 0, locals := 28 } : Room) s m ([.ref (ad 0)] : List Value).toArray below meth c H locs 0 0 Q (F0 m 551 ls [])) : ∀ (ls : Array Slot) (H : Heap) (locs : List Loc), va_P (dC, dI) cls (wN ad cA b T Ac gt lt ts nw st hs ht dc pa ib Cc) H → va_D A (wN ad cA b T Ac gt lt ts nw st hs ht dc pa ib Cc) → va_S A s.heap H locs → lv_has ls 15 [(10, .double (z6 b Cc)), (0, .ref (ad 0))] → W p l e ({ frames := 1, cells := 0, slots := 0, locals := 28 } : Room) s m ([.ref (ad 0)] : List Value).toArray below meth c H locs 0 0 Q (F0 m 443 ls []) := by
  obtain ⟨hx, hb, hr, hts, hown, hml, hlocks, hA, hK, hT⟩ := id C
  intro ls H locs hP hD hS hl
  refine lv_aload_n hx hb dN_second_443 rfl (lv_at hl 1 rfl) ?_
  refine va_get (D := (dC, dI)) (ci := 3) (v := .ref (ad 1)) (C := "MashEnzymesModel") (T := F_N) (N := 14) hx hb hts in_N hown hK hP 0 rfl rfl 0 (by decide) (hts _ tw_f_N_9) (fun _ h9 => h9) rfl dN_second_444 ?_
  refine lv_bipush (v := 6) hx hb dN_second_447 (by decide) ?_
  refine lv_aload_n hx hb dN_second_449 rfl (lv_at hl 1 rfl) ?_
  refine va_get (D := (dC, dI)) (ci := 3) (v := .ref (ad 1)) (C := "MashEnzymesModel") (T := F_N) (N := 14) hx hb hts in_N hown hK hP 0 rfl rfl 0 (by decide) (hts _ tw_f_N_9) (fun _ h9 => h9) rfl dN_second_450 ?_
  refine lv_bipush (v := 6) hx hb dN_second_453 (by decide) ?_
  refine ct_dald (k := 6) (v := b 6) hx hb hK hP 1 0 rfl rfl (by unfold vp_in; decide) (rfl) (rfl) dN_second_455 ?_
  refine lv_dload hx hb dN_second_456 (lv_at hl 0 rfl) ?_
  refine lv_dsub hx hb dN_second_458 (h6.2.2.1) ?_
  refine ct_dast (k := 6) (w1 := (wN ad cA (vf_upd b 6 (FP.dsub (b 6) (z6 b Cc))) T Ac gt lt ts nw st hs ht dc pa ib Cc)) hx hb hK hP hD hS 1 0 rfl rfl (by unfold vp_in; decide) (rfl) (rfl) dN_second_459 (fun H locs hP hD hS => ?_)
  refine lv_aload_n hx hb dN_second_460 rfl (lv_at hl 1 rfl) ?_
  refine va_get (D := (dC, dI)) (ci := 3) (v := .ref (ad 1)) (C := "MashEnzymesModel") (T := F_N) (N := 14) hx hb hts in_N hown hK hP 0 rfl rfl 0 (by decide) (hts _ tw_f_N_9) (fun _ h9 => h9) rfl dN_second_461 ?_
  refine lv_iconst (v := 3) hx hb dN_second_464 (by decide) ?_
  refine lv_aload_n hx hb dN_second_465 rfl (lv_at hl 1 rfl) ?_
  refine va_get (D := (dC, dI)) (ci := 3) (v := .ref (ad 1)) (C := "MashEnzymesModel") (T := F_N) (N := 14) hx hb hts in_N hown hK hP 0 rfl rfl 0 (by decide) (hts _ tw_f_N_9) (fun _ h9 => h9) rfl dN_second_466 ?_
  refine lv_iconst (v := 3) hx hb dN_second_469 (by decide) ?_
  refine ct_dald (k := 3) (v := b 3) hx hb hK hP 1 0 rfl rfl (by unfold vp_in; decide) (rfl) (rfl) dN_second_470 ?_
  refine lv_dload hx hb dN_second_471 (lv_at hl 0 rfl) ?_
  refine lv_ldc2d hx hb hown (hts _ tw_d_N_99) dN_second_473 ?_
  refine lv_dmul hx hb dN_second_476 (h6.2.2.2.1) ?_
  refine lv_dadd hx hb dN_second_477 (h6.2.2.2.2.1) ?_
  refine ct_dast (k := 3) (w1 := (wN ad cA (vf_upd (vf_upd b 6 (FP.dsub (b 6) (z6 b Cc))) 3 (FP.dadd (b 3) (FP.dmul (z6 b Cc) 4607745368753438720))) T Ac gt lt ts nw st hs ht dc pa ib Cc)) hx hb hK hP hD hS 1 0 rfl rfl (by unfold vp_in; decide) (rfl) (rfl) dN_second_478 (fun H locs hP hD hS => ?_)
  refine lv_aload_n hx hb dN_second_479 rfl (lv_at hl 1 rfl) ?_
  refine va_get (D := (dC, dI)) (ci := 3) (v := .ref (ad 1)) (C := "MashEnzymesModel") (T := F_N) (N := 14) hx hb hts in_N hown hK hP 0 rfl rfl 0 (by decide) (hts _ tw_f_N_9) (fun _ h9 => h9) rfl dN_second_480 ?_
  refine lv_iconst (v := 0) hx hb dN_second_483 (by decide) ?_
  refine lv_aload_n hx hb dN_second_484 rfl (lv_at hl 1 rfl) ?_
  refine va_get (D := (dC, dI)) (ci := 3) (v := .ref (ad 1)) (C := "MashEnzymesModel") (T := F_N) (N := 14) hx hb hts in_N hown hK hP 0 rfl rfl 0 (by decide) (hts _ tw_f_N_9) (fun _ h9 => h9) rfl dN_second_485 ?_
  refine lv_iconst (v := 0) hx hb dN_second_488 (by decide) ?_
  refine ct_dald (k := 0) (v := b 0) hx hb hK hP 1 0 rfl rfl (by unfold vp_in; decide) (rfl) (rfl) dN_second_489 ?_
  refine lv_dload hx hb dN_second_490 (lv_at hl 0 rfl) ?_
  refine lv_ldc2d hx hb hown (hts _ tw_d_N_36) dN_second_492 ?_
  refine lv_dmul hx hb dN_second_495 (h6.2.2.2.2.2.1) ?_
  refine lv_dsub hx hb dN_second_496 (h6.2.2.2.2.2.2) ?_
  refine ct_dast (k := 0) (w1 := (wN ad cA (s6 b Cc) T Ac gt lt ts nw st hs ht dc pa ib Cc)) hx hb hK hP hD hS 1 0 rfl rfl (by unfold vp_in; decide) (rfl) (rfl) dN_second_497 (fun H locs hP hD hS => ?_)
  refine lv_aload_n hx hb dN_second_498 rfl (lv_at hl 1 rfl) ?_
  refine va_get (D := (dC, dI)) (ci := 3) (v := .ref (ad 1)) (C := "MashEnzymesModel") (T := F_N) (N := 14) hx hb hts in_N hown hK hP 0 rfl rfl 0 (by decide) (hts _ tw_f_N_9) (fun _ h9 => h9) rfl dN_second_499 ?_
  refine lv_bipush (v := 8) hx hb dN_second_502 (by decide) ?_
  refine ct_dald (k := 8) (v := (s6 b Cc) 8) hx hb hK hP 1 0 rfl rfl (by unfold vp_in; decide) (rfl) (rfl) dN_second_504 ?_
  refine lv_aload_n hx hb dN_second_505 rfl (lv_at hl 1 rfl) ?_
  refine va_get (D := (dC, dI)) (ci := 3) (v := .ref (ad 6)) (C := "MashEnzymesModel") (T := F_N) (N := 14) hx hb hts in_N hown hK hP 0 rfl rfl 13 (by decide) (hts _ tw_f_N_27) (fun _ h9 => h9) rfl dN_second_506 ?_
  refine lv_iconst (v := 3) hx hb dN_second_509 (by decide) ?_
  refine ct_dald (k := 3) (v := Cc 3) hx hb hK hP 6 5 rfl rfl (by unfold vp_in; decide) (rfl) (rfl) dN_second_510 ?_
  refine lv_dmul hx hb dN_second_511 (h7.1) ?_
  refine lv_dstore (lv' := [(12, .double (FP.dmul ((s6 b Cc) 8) (Cc 3))), (10, .double (z6 b Cc)), (0, .ref (ad 0))]) hx hb dN_second_512 hl (by decide) rfl (fun ls hl => ?_)
  refine lv_aload_n hx hb dN_second_514 rfl (lv_at hl 2 rfl) ?_
  refine va_get (D := (dC, dI)) (ci := 3) (v := .ref (ad 1)) (C := "MashEnzymesModel") (T := F_N) (N := 14) hx hb hts in_N hown hK hP 0 rfl rfl 0 (by decide) (hts _ tw_f_N_9) (fun _ h9 => h9) rfl dN_second_515 ?_
  refine lv_bipush (v := 8) hx hb dN_second_518 (by decide) ?_
  refine lv_aload_n hx hb dN_second_520 rfl (lv_at hl 2 rfl) ?_
  refine va_get (D := (dC, dI)) (ci := 3) (v := .ref (ad 1)) (C := "MashEnzymesModel") (T := F_N) (N := 14) hx hb hts in_N hown hK hP 0 rfl rfl 0 (by decide) (hts _ tw_f_N_9) (fun _ h9 => h9) rfl dN_second_521 ?_
  refine lv_bipush (v := 8) hx hb dN_second_524 (by decide) ?_
  refine ct_dald (k := 8) (v := (s6 b Cc) 8) hx hb hK hP 1 0 rfl rfl (by unfold vp_in; decide) (rfl) (rfl) dN_second_526 ?_
  refine lv_dload hx hb dN_second_527 (lv_at hl 0 rfl) ?_
  refine lv_dsub hx hb dN_second_529 (h7.2.1) ?_
  refine ct_dast (k := 8) (w1 := (wN ad cA (vf_upd (s6 b Cc) 8 (FP.dsub ((s6 b Cc) 8) (FP.dmul ((s6 b Cc) 8) (Cc 3)))) T Ac gt lt ts nw st hs ht dc pa ib Cc)) hx hb hK hP hD hS 1 0 rfl rfl (by unfold vp_in; decide) (rfl) (rfl) dN_second_530 (fun H locs hP hD hS => ?_)
  refine lv_aload_n hx hb dN_second_531 rfl (lv_at hl 2 rfl) ?_
  refine va_get (D := (dC, dI)) (ci := 3) (v := .ref (ad 1)) (C := "MashEnzymesModel") (T := F_N) (N := 14) hx hb hts in_N hown hK hP 0 rfl rfl 0 (by decide) (hts _ tw_f_N_9) (fun _ h9 => h9) rfl dN_second_532 ?_
  refine lv_bipush (v := 7) hx hb dN_second_535 (by decide) ?_
  refine lv_aload_n hx hb dN_second_537 rfl (lv_at hl 2 rfl) ?_
  refine va_get (D := (dC, dI)) (ci := 3) (v := .ref (ad 1)) (C := "MashEnzymesModel") (T := F_N) (N := 14) hx hb hts in_N hown hK hP 0 rfl rfl 0 (by decide) (hts _ tw_f_N_9) (fun _ h9 => h9) rfl dN_second_538 ?_
  refine lv_bipush (v := 7) hx hb dN_second_541 (by decide) ?_
  refine ct_dald (k := 7) (v := (s6 b Cc) 7) hx hb hK hP 1 0 rfl rfl (by unfold vp_in; decide) (rfl) (rfl) dN_second_543 ?_
  refine lv_dload hx hb dN_second_544 (lv_at hl 0 rfl) ?_
  refine lv_dadd hx hb dN_second_546 (h7.2.2) ?_
  refine ct_dast (k := 7) (w1 := (wN ad cA (s7 (s6 b Cc) Cc) T Ac gt lt ts nw st hs ht dc pa ib Cc)) hx hb hK hP hD hS 1 0 rfl rfl (by unfold vp_in; decide) (rfl) (rfl) dN_second_547 (fun H locs hP hD hS => ?_)
  refine lv_iconst (v := 0) hx hb dN_second_548 (by decide) ?_
  refine ct_topi (y := nI 0) (rfl) ?_
  refine lv_istore (lv' := [(14, .int (nI 0)), (12, .double (FP.dmul ((s6 b Cc) 8) (Cc 3))), (10, .double (z6 b Cc)), (0, .ref (ad 0))]) hx hb dN_second_549 hl (by decide) rfl (fun ls hl => ?_)
  exact k ls _ _ hP hD hS (lv_sub hl [0, 3] rfl)
set_option maxHeartbeats 4000000 in
set_option maxRecDepth 100000 in
theorem gN_5 {p : Program} {l : Launch} {e : Env} {s : State} {m : MethodId} {below : List Frame} {meth : Method} {c : Code} {A : Nat → Prop} {dC : Nat → ClassId} {dI : Nat → Nat → Nat} {tt : Nat → Nat} {ad : Nat → Nat} {cA : Nat → ClassId} {Q : State → Prop} (b Cc Rr : Nat → UInt64) (T Ac : UInt64) (gt lt : Int32) (ts : UInt64) (nw st : Int32) (hs : Nat → Int32) (ht : Nat → UInt64) (dc : Int32) (pa : Nat → UInt64) (ib : Nat → Int32) (C : nCx p s m meth c A dC dI tt ad cA) (h5 : ok5 b Cc) (h6 : ok6 (s5 b Cc) Cc) (k : ∀ (ls : Array Slot) (H : Heap) (locs : List Loc), va_P (dC, dI) cls (wN ad cA (s5 b Cc) T Ac gt lt ts nw st hs ht dc pa ib Cc) H → va_D A (wN ad cA (s5 b Cc) T Ac gt lt ts nw st hs ht dc pa ib Cc) → va_S A s.heap H locs → lv_has ls 15 [(10, .double (z6 (s5 b Cc) Cc)), (0, .ref (ad 0))] → W p l e ({ frames := 1, cells := 0, slots := 0, locals := 28 } : Room) s m ([.ref (ad 0)] : List Value).toArray below meth c H locs 0 0 Q (F0 m 443 ls [])) : ∀ (ls : Array Slot) (H : Heap) (locs : List Loc), va_P (dC, dI) cls (wN ad cA b T Ac gt lt ts nw st hs ht dc pa ib Cc) H → va_D A (wN ad cA b T Ac gt lt ts nw st hs ht dc pa ib Cc) → va_S A s.heap H locs → lv_has ls 15 [(8, .double (y5 b Cc)), (0, .ref (ad 0))] → W p l e ({ frames := 1, cells := 0, slots := 0, locals := 28 } : Room) s m ([.ref (ad 0)] : List Value).toArray below meth c H locs 0 0 Q (F0 m 339 ls []) := by
  obtain ⟨hx, hb, hr, hts, hown, hml, hlocks, hA, hK, hT⟩ := id C
  intro ls H locs hP hD hS hl
  refine lv_aload_n hx hb dN_second_339 rfl (lv_at hl 1 rfl) ?_
  refine va_get (D := (dC, dI)) (ci := 3) (v := .ref (ad 1)) (C := "MashEnzymesModel") (T := F_N) (N := 14) hx hb hts in_N hown hK hP 0 rfl rfl 0 (by decide) (hts _ tw_f_N_9) (fun _ h9 => h9) rfl dN_second_340 ?_
  refine lv_bipush (v := 6) hx hb dN_second_343 (by decide) ?_
  refine lv_aload_n hx hb dN_second_345 rfl (lv_at hl 1 rfl) ?_
  refine va_get (D := (dC, dI)) (ci := 3) (v := .ref (ad 1)) (C := "MashEnzymesModel") (T := F_N) (N := 14) hx hb hts in_N hown hK hP 0 rfl rfl 0 (by decide) (hts _ tw_f_N_9) (fun _ h9 => h9) rfl dN_second_346 ?_
  refine lv_bipush (v := 6) hx hb dN_second_349 (by decide) ?_
  refine ct_dald (k := 6) (v := b 6) hx hb hK hP 1 0 rfl rfl (by unfold vp_in; decide) (rfl) (rfl) dN_second_351 ?_
  refine lv_dload hx hb dN_second_352 (lv_at hl 0 rfl) ?_
  refine lv_dsub hx hb dN_second_354 (h5.2.2.1) ?_
  refine ct_dast (k := 6) (w1 := (wN ad cA (vf_upd b 6 (FP.dsub (b 6) (y5 b Cc))) T Ac gt lt ts nw st hs ht dc pa ib Cc)) hx hb hK hP hD hS 1 0 rfl rfl (by unfold vp_in; decide) (rfl) (rfl) dN_second_355 (fun H locs hP hD hS => ?_)
  refine lv_aload_n hx hb dN_second_356 rfl (lv_at hl 1 rfl) ?_
  refine va_get (D := (dC, dI)) (ci := 3) (v := .ref (ad 1)) (C := "MashEnzymesModel") (T := F_N) (N := 14) hx hb hts in_N hown hK hP 0 rfl rfl 0 (by decide) (hts _ tw_f_N_9) (fun _ h9 => h9) rfl dN_second_357 ?_
  refine lv_iconst (v := 4) hx hb dN_second_360 (by decide) ?_
  refine lv_aload_n hx hb dN_second_361 rfl (lv_at hl 1 rfl) ?_
  refine va_get (D := (dC, dI)) (ci := 3) (v := .ref (ad 1)) (C := "MashEnzymesModel") (T := F_N) (N := 14) hx hb hts in_N hown hK hP 0 rfl rfl 0 (by decide) (hts _ tw_f_N_9) (fun _ h9 => h9) rfl dN_second_362 ?_
  refine lv_iconst (v := 4) hx hb dN_second_365 (by decide) ?_
  refine ct_dald (k := 4) (v := b 4) hx hb hK hP 1 0 rfl rfl (by unfold vp_in; decide) (rfl) (rfl) dN_second_366 ?_
  refine lv_dload hx hb dN_second_367 (lv_at hl 0 rfl) ?_
  refine lv_ldc2d hx hb hown (hts _ tw_d_N_95) dN_second_369 ?_
  refine lv_dmul hx hb dN_second_372 (h5.2.2.2.1) ?_
  refine lv_dadd hx hb dN_second_373 (h5.2.2.2.2.1) ?_
  refine ct_dast (k := 4) (w1 := (wN ad cA (vf_upd (vf_upd b 6 (FP.dsub (b 6) (y5 b Cc))) 4 (FP.dadd (b 4) (FP.dmul (y5 b Cc) 4607463893776728064))) T Ac gt lt ts nw st hs ht dc pa ib Cc)) hx hb hK hP hD hS 1 0 rfl rfl (by unfold vp_in; decide) (rfl) (rfl) dN_second_374 (fun H locs hP hD hS => ?_)
  refine lv_aload_n hx hb dN_second_375 rfl (lv_at hl 1 rfl) ?_
  refine va_get (D := (dC, dI)) (ci := 3) (v := .ref (ad 1)) (C := "MashEnzymesModel") (T := F_N) (N := 14) hx hb hts in_N hown hK hP 0 rfl rfl 0 (by decide) (hts _ tw_f_N_9) (fun _ h9 => h9) rfl dN_second_376 ?_
  refine lv_iconst (v := 0) hx hb dN_second_379 (by decide) ?_
  refine lv_aload_n hx hb dN_second_380 rfl (lv_at hl 1 rfl) ?_
  refine va_get (D := (dC, dI)) (ci := 3) (v := .ref (ad 1)) (C := "MashEnzymesModel") (T := F_N) (N := 14) hx hb hts in_N hown hK hP 0 rfl rfl 0 (by decide) (hts _ tw_f_N_9) (fun _ h9 => h9) rfl dN_second_381 ?_
  refine lv_iconst (v := 0) hx hb dN_second_384 (by decide) ?_
  refine ct_dald (k := 0) (v := b 0) hx hb hK hP 1 0 rfl rfl (by unfold vp_in; decide) (rfl) (rfl) dN_second_385 ?_
  refine lv_dload hx hb dN_second_386 (lv_at hl 0 rfl) ?_
  refine lv_ldc2d hx hb hown (hts _ tw_d_N_38) dN_second_388 ?_
  refine lv_dmul hx hb dN_second_391 (h5.2.2.2.2.2.1) ?_
  refine lv_dsub hx hb dN_second_392 (h5.2.2.2.2.2.2) ?_
  refine ct_dast (k := 0) (w1 := (wN ad cA (s5 b Cc) T Ac gt lt ts nw st hs ht dc pa ib Cc)) hx hb hK hP hD hS 1 0 rfl rfl (by unfold vp_in; decide) (rfl) (rfl) dN_second_393 (fun H locs hP hD hS => ?_)
  refine lv_aload_n hx hb dN_second_394 rfl (lv_at hl 1 rfl) ?_
  refine va_get (D := (dC, dI)) (ci := 3) (v := .ref (ad 1)) (C := "MashEnzymesModel") (T := F_N) (N := 14) hx hb hts in_N hown hK hP 0 rfl rfl 0 (by decide) (hts _ tw_f_N_9) (fun _ h9 => h9) rfl dN_second_395 ?_
  refine lv_bipush (v := 6) hx hb dN_second_398 (by decide) ?_
  refine ct_dald (k := 6) (v := (s5 b Cc) 6) hx hb hK hP 1 0 rfl rfl (by unfold vp_in; decide) (rfl) (rfl) dN_second_400 ?_
  refine lv_aload_n hx hb dN_second_401 rfl (lv_at hl 1 rfl) ?_
  refine va_get (D := (dC, dI)) (ci := 3) (v := .ref (ad 6)) (C := "MashEnzymesModel") (T := F_N) (N := 14) hx hb hts in_N hown hK hP 0 rfl rfl 13 (by decide) (hts _ tw_f_N_27) (fun _ h9 => h9) rfl dN_second_402 ?_
  refine lv_iconst (v := 2) hx hb dN_second_405 (by decide) ?_
  refine ct_dald (k := 2) (v := Cc 2) hx hb hK hP 6 5 rfl rfl (by unfold vp_in; decide) (rfl) (rfl) dN_second_406 ?_
  refine lv_dmul hx hb dN_second_407 (h6.1) ?_
  refine lv_dstore (lv' := [(10, .double (FP.dmul ((s5 b Cc) 6) (Cc 2))), (8, .double (y5 b Cc)), (0, .ref (ad 0))]) hx hb dN_second_408 hl (by decide) rfl (fun ls hl => ?_)
  refine lv_aload_n hx hb dN_second_410 rfl (lv_at hl 2 rfl) ?_
  refine va_get (D := (dC, dI)) (ci := 3) (v := .ref (ad 1)) (C := "MashEnzymesModel") (T := F_N) (N := 14) hx hb hts in_N hown hK hP 0 rfl rfl 0 (by decide) (hts _ tw_f_N_9) (fun _ h9 => h9) rfl dN_second_411 ?_
  refine lv_iconst (v := 0) hx hb dN_second_414 (by decide) ?_
  refine ct_dald (k := 0) (v := (s5 b Cc) 0) hx hb hK hP 1 0 rfl rfl (by unfold vp_in; decide) (rfl) (rfl) dN_second_415 ?_
  refine lv_ldc2d hx hb hown (hts _ tw_d_N_97) dN_second_416 ?_
  refine lv_dmul hx hb dN_second_419 (h6.2.1) ?_
  refine lv_dload hx hb dN_second_420 (lv_at hl 0 rfl) ?_
  refine lv_dcmp hx hb dN_second_422 ?_
  refine lv_if_ge (tgt := 439) hx hb dN_second_423 (by decide) (fun c_1 => ?_) (fun c_1 => ?_)
  · refine lv_dload hx hb dN_second_439 (lv_at hl 0 rfl) ?_
    refine ct_topd (y := z6 (s5 b Cc) Cc) (by unfold z6 lesD; rw [if_neg ((cv_g_ge _).mp c_1)]) ?_
    refine lv_dstore (lv' := [(10, .double (z6 (s5 b Cc) Cc)), (8, .double (y5 b Cc)), (0, .ref (ad 0))]) hx hb dN_second_441 hl (by decide) rfl (fun ls hl => ?_)
    exact k ls _ _ hP hD hS (lv_sub hl [0, 2] rfl)
  · refine lv_aload_n hx hb dN_second_426 rfl (lv_at hl 2 rfl) ?_
    refine va_get (D := (dC, dI)) (ci := 3) (v := .ref (ad 1)) (C := "MashEnzymesModel") (T := F_N) (N := 14) hx hb hts in_N hown hK hP 0 rfl rfl 0 (by decide) (hts _ tw_f_N_9) (fun _ h9 => h9) rfl dN_second_427 ?_
    refine lv_iconst (v := 0) hx hb dN_second_430 (by decide) ?_
    refine ct_dald (k := 0) (v := (s5 b Cc) 0) hx hb hK hP 1 0 rfl rfl (by unfold vp_in; decide) (rfl) (rfl) dN_second_431 ?_
    refine lv_ldc2d hx hb hown (hts _ tw_d_N_97) dN_second_432 ?_
    refine lv_dmul hx hb dN_second_435 (h6.2.1) ?_
    refine lv_goto (tgt := 441) hx hb dN_second_436 (by decide) ?_
    refine ct_topd (y := z6 (s5 b Cc) Cc) (by unfold z6 lesD; rw [if_pos (Classical.not_not.mp fun h => c_1 ((cv_g_ge _).mpr h))]) ?_
    refine lv_dstore (lv' := [(10, .double (z6 (s5 b Cc) Cc)), (8, .double (y5 b Cc)), (0, .ref (ad 0))]) hx hb dN_second_441 hl (by decide) rfl (fun ls hl => ?_)
    exact k ls _ _ hP hD hS (lv_sub hl [0, 2] rfl)
set_option maxHeartbeats 4000000 in
set_option maxRecDepth 100000 in
theorem gN_4 {p : Program} {l : Launch} {e : Env} {s : State} {m : MethodId} {below : List Frame} {meth : Method} {c : Code} {A : Nat → Prop} {dC : Nat → ClassId} {dI : Nat → Nat → Nat} {tt : Nat → Nat} {ad : Nat → Nat} {cA : Nat → ClassId} {Q : State → Prop} (b Cc Rr : Nat → UInt64) (T Ac : UInt64) (gt lt : Int32) (ts : UInt64) (nw st : Int32) (hs : Nat → Int32) (ht : Nat → UInt64) (dc : Int32) (pa : Nat → UInt64) (ib : Nat → Int32) (C : nCx p s m meth c A dC dI tt ad cA) (h4 : ok4 b Cc) (h5 : ok5 (s4 b Cc) Cc) (k : ∀ (ls : Array Slot) (H : Heap) (locs : List Loc), va_P (dC, dI) cls (wN ad cA (s4 b Cc) T Ac gt lt ts nw st hs ht dc pa ib Cc) H → va_D A (wN ad cA (s4 b Cc) T Ac gt lt ts nw st hs ht dc pa ib Cc) → va_S A s.heap H locs → lv_has ls 15 [(8, .double (y5 (s4 b Cc) Cc)), (0, .ref (ad 0))] → W p l e ({ frames := 1, cells := 0, slots := 0, locals := 28 } : Room) s m ([.ref (ad 0)] : List Value).toArray below meth c H locs 0 0 Q (F0 m 339 ls [])) : ∀ (ls : Array Slot) (H : Heap) (locs : List Loc), va_P (dC, dI) cls (wN ad cA b T Ac gt lt ts nw st hs ht dc pa ib Cc) H → va_D A (wN ad cA b T Ac gt lt ts nw st hs ht dc pa ib Cc) → va_S A s.heap H locs → lv_has ls 15 [(0, .ref (ad 0))] → W p l e ({ frames := 1, cells := 0, slots := 0, locals := 28 } : Room) s m ([.ref (ad 0)] : List Value).toArray below meth c H locs 0 0 Q (F0 m 220 ls []) := by
  obtain ⟨hx, hb, hr, hts, hown, hml, hlocks, hA, hK, hT⟩ := id C
  intro ls H locs hP hD hS hl
  refine lv_aload_n hx hb dN_second_220 rfl (lv_at hl 0 rfl) ?_
  refine va_get (D := (dC, dI)) (ci := 3) (v := .ref (ad 1)) (C := "MashEnzymesModel") (T := F_N) (N := 14) hx hb hts in_N hown hK hP 0 rfl rfl 0 (by decide) (hts _ tw_f_N_9) (fun _ h9 => h9) rfl dN_second_221 ?_
  refine lv_iconst (v := 2) hx hb dN_second_224 (by decide) ?_
  refine ct_dald (k := 2) (v := b 2) hx hb hK hP 1 0 rfl rfl (by unfold vp_in; decide) (rfl) (rfl) dN_second_225 ?_
  refine lv_aload_n hx hb dN_second_226 rfl (lv_at hl 0 rfl) ?_
  refine va_get (D := (dC, dI)) (ci := 3) (v := .ref (ad 6)) (C := "MashEnzymesModel") (T := F_N) (N := 14) hx hb hts in_N hown hK hP 0 rfl rfl 13 (by decide) (hts _ tw_f_N_27) (fun _ h9 => h9) rfl dN_second_227 ?_
  refine lv_iconst (v := 0) hx hb dN_second_230 (by decide) ?_
  refine ct_dald (k := 0) (v := Cc 0) hx hb hK hP 6 5 rfl rfl (by unfold vp_in; decide) (rfl) (rfl) dN_second_231 ?_
  refine lv_dmul hx hb dN_second_232 (h4.1) ?_
  refine lv_dstore (lv' := [(6, .double (FP.dmul (b 2) (Cc 0))), (0, .ref (ad 0))]) hx hb dN_second_233 hl (by decide) rfl (fun ls hl => ?_)
  refine lv_aload_n hx hb dN_second_235 rfl (lv_at hl 1 rfl) ?_
  refine va_get (D := (dC, dI)) (ci := 3) (v := .ref (ad 1)) (C := "MashEnzymesModel") (T := F_N) (N := 14) hx hb hts in_N hown hK hP 0 rfl rfl 0 (by decide) (hts _ tw_f_N_9) (fun _ h9 => h9) rfl dN_second_236 ?_
  refine lv_iconst (v := 2) hx hb dN_second_239 (by decide) ?_
  refine lv_aload_n hx hb dN_second_240 rfl (lv_at hl 1 rfl) ?_
  refine va_get (D := (dC, dI)) (ci := 3) (v := .ref (ad 1)) (C := "MashEnzymesModel") (T := F_N) (N := 14) hx hb hts in_N hown hK hP 0 rfl rfl 0 (by decide) (hts _ tw_f_N_9) (fun _ h9 => h9) rfl dN_second_241 ?_
  refine lv_iconst (v := 2) hx hb dN_second_244 (by decide) ?_
  refine ct_dald (k := 2) (v := b 2) hx hb hK hP 1 0 rfl rfl (by unfold vp_in; decide) (rfl) (rfl) dN_second_245 ?_
  refine lv_dload hx hb dN_second_246 (lv_at hl 0 rfl) ?_
  refine lv_dsub hx hb dN_second_248 (h4.2.1) ?_
  refine ct_dast (k := 2) (w1 := (wN ad cA (vf_upd b 2 (FP.dsub (b 2) (FP.dmul (b 2) (Cc 0)))) T Ac gt lt ts nw st hs ht dc pa ib Cc)) hx hb hK hP hD hS 1 0 rfl rfl (by unfold vp_in; decide) (rfl) (rfl) dN_second_249 (fun H locs hP hD hS => ?_)
  refine lv_aload_n hx hb dN_second_250 rfl (lv_at hl 1 rfl) ?_
  refine va_get (D := (dC, dI)) (ci := 3) (v := .ref (ad 1)) (C := "MashEnzymesModel") (T := F_N) (N := 14) hx hb hts in_N hown hK hP 0 rfl rfl 0 (by decide) (hts _ tw_f_N_9) (fun _ h9 => h9) rfl dN_second_251 ?_
  refine lv_bipush (v := 6) hx hb dN_second_254 (by decide) ?_
  refine lv_aload_n hx hb dN_second_256 rfl (lv_at hl 1 rfl) ?_
  refine va_get (D := (dC, dI)) (ci := 3) (v := .ref (ad 1)) (C := "MashEnzymesModel") (T := F_N) (N := 14) hx hb hts in_N hown hK hP 0 rfl rfl 0 (by decide) (hts _ tw_f_N_9) (fun _ h9 => h9) rfl dN_second_257 ?_
  refine lv_bipush (v := 6) hx hb dN_second_260 (by decide) ?_
  refine ct_dald (k := 6) (v := b 6) hx hb hK hP 1 0 rfl rfl (by unfold vp_in; decide) (rfl) (rfl) dN_second_262 ?_
  refine lv_dload hx hb dN_second_263 (lv_at hl 0 rfl) ?_
  refine lv_ldc2d hx hb hown (hts _ tw_d_N_42) dN_second_265 ?_
  refine lv_dmul hx hb dN_second_268 (h4.2.2.1) ?_
  refine lv_dadd hx hb dN_second_269 (h4.2.2.2.1) ?_
  refine ct_dast (k := 6) (w1 := (wN ad cA (vf_upd (vf_upd b 2 (FP.dsub (b 2) (FP.dmul (b 2) (Cc 0)))) 6 (FP.dadd (b 6) (FP.dmul (FP.dmul (b 2) (Cc 0)) 4604930618986332160))) T Ac gt lt ts nw st hs ht dc pa ib Cc)) hx hb hK hP hD hS 1 0 rfl rfl (by unfold vp_in; decide) (rfl) (rfl) dN_second_270 (fun H locs hP hD hS => ?_)
  refine lv_aload_n hx hb dN_second_271 rfl (lv_at hl 1 rfl) ?_
  refine va_get (D := (dC, dI)) (ci := 3) (v := .ref (ad 1)) (C := "MashEnzymesModel") (T := F_N) (N := 14) hx hb hts in_N hown hK hP 0 rfl rfl 0 (by decide) (hts _ tw_f_N_9) (fun _ h9 => h9) rfl dN_second_272 ?_
  refine lv_iconst (v := 5) hx hb dN_second_275 (by decide) ?_
  refine lv_aload_n hx hb dN_second_276 rfl (lv_at hl 1 rfl) ?_
  refine va_get (D := (dC, dI)) (ci := 3) (v := .ref (ad 1)) (C := "MashEnzymesModel") (T := F_N) (N := 14) hx hb hts in_N hown hK hP 0 rfl rfl 0 (by decide) (hts _ tw_f_N_9) (fun _ h9 => h9) rfl dN_second_277 ?_
  refine lv_iconst (v := 5) hx hb dN_second_280 (by decide) ?_
  refine ct_dald (k := 5) (v := b 5) hx hb hK hP 1 0 rfl rfl (by unfold vp_in; decide) (rfl) (rfl) dN_second_281 ?_
  refine lv_dload hx hb dN_second_282 (lv_at hl 0 rfl) ?_
  refine lv_ldc2d hx hb hown (hts _ tw_d_N_44) dN_second_284 ?_
  refine lv_dmul hx hb dN_second_287 (h4.2.2.2.2.1) ?_
  refine lv_dadd hx hb dN_second_288 (h4.2.2.2.2.2) ?_
  refine ct_dast (k := 5) (w1 := (wN ad cA (s4 b Cc) T Ac gt lt ts nw st hs ht dc pa ib Cc)) hx hb hK hP hD hS 1 0 rfl rfl (by unfold vp_in; decide) (rfl) (rfl) dN_second_289 (fun H locs hP hD hS => ?_)
  refine lv_aload_n hx hb dN_second_290 rfl (lv_at hl 1 rfl) ?_
  refine va_get (D := (dC, dI)) (ci := 3) (v := .ref (ad 1)) (C := "MashEnzymesModel") (T := F_N) (N := 14) hx hb hts in_N hown hK hP 0 rfl rfl 0 (by decide) (hts _ tw_f_N_9) (fun _ h9 => h9) rfl dN_second_291 ?_
  refine lv_bipush (v := 6) hx hb dN_second_294 (by decide) ?_
  refine ct_dald (k := 6) (v := (s4 b Cc) 6) hx hb hK hP 1 0 rfl rfl (by unfold vp_in; decide) (rfl) (rfl) dN_second_296 ?_
  refine lv_aload_n hx hb dN_second_297 rfl (lv_at hl 1 rfl) ?_
  refine va_get (D := (dC, dI)) (ci := 3) (v := .ref (ad 6)) (C := "MashEnzymesModel") (T := F_N) (N := 14) hx hb hts in_N hown hK hP 0 rfl rfl 13 (by decide) (hts _ tw_f_N_27) (fun _ h9 => h9) rfl dN_second_298 ?_
  refine lv_iconst (v := 1) hx hb dN_second_301 (by decide) ?_
  refine ct_dald (k := 1) (v := Cc 1) hx hb hK hP 6 5 rfl rfl (by unfold vp_in; decide) (rfl) (rfl) dN_second_302 ?_
  refine lv_dmul hx hb dN_second_303 (h5.1) ?_
  refine lv_dstore (lv' := [(8, .double (FP.dmul ((s4 b Cc) 6) (Cc 1))), (6, .double (FP.dmul (b 2) (Cc 0))), (0, .ref (ad 0))]) hx hb dN_second_304 hl (by decide) rfl (fun ls hl => ?_)
  refine lv_aload_n hx hb dN_second_306 rfl (lv_at hl 2 rfl) ?_
  refine va_get (D := (dC, dI)) (ci := 3) (v := .ref (ad 1)) (C := "MashEnzymesModel") (T := F_N) (N := 14) hx hb hts in_N hown hK hP 0 rfl rfl 0 (by decide) (hts _ tw_f_N_9) (fun _ h9 => h9) rfl dN_second_307 ?_
  refine lv_iconst (v := 0) hx hb dN_second_310 (by decide) ?_
  refine ct_dald (k := 0) (v := (s4 b Cc) 0) hx hb hK hP 1 0 rfl rfl (by unfold vp_in; decide) (rfl) (rfl) dN_second_311 ?_
  refine lv_ldc2d hx hb hown (hts _ tw_d_N_60) dN_second_312 ?_
  refine lv_dmul hx hb dN_second_315 (h5.2.1) ?_
  refine lv_dload hx hb dN_second_316 (lv_at hl 0 rfl) ?_
  refine lv_dcmp hx hb dN_second_318 ?_
  refine lv_if_ge (tgt := 335) hx hb dN_second_319 (by decide) (fun c_1 => ?_) (fun c_1 => ?_)
  · refine lv_dload hx hb dN_second_335 (lv_at hl 0 rfl) ?_
    refine ct_topd (y := y5 (s4 b Cc) Cc) (by unfold y5 lesD; rw [if_neg ((cv_g_ge _).mp c_1)]) ?_
    refine lv_dstore (lv' := [(8, .double (y5 (s4 b Cc) Cc)), (6, .double (FP.dmul (b 2) (Cc 0))), (0, .ref (ad 0))]) hx hb dN_second_337 hl (by decide) rfl (fun ls hl => ?_)
    exact k ls _ _ hP hD hS (lv_sub hl [0, 2] rfl)
  · refine lv_aload_n hx hb dN_second_322 rfl (lv_at hl 2 rfl) ?_
    refine va_get (D := (dC, dI)) (ci := 3) (v := .ref (ad 1)) (C := "MashEnzymesModel") (T := F_N) (N := 14) hx hb hts in_N hown hK hP 0 rfl rfl 0 (by decide) (hts _ tw_f_N_9) (fun _ h9 => h9) rfl dN_second_323 ?_
    refine lv_iconst (v := 0) hx hb dN_second_326 (by decide) ?_
    refine ct_dald (k := 0) (v := (s4 b Cc) 0) hx hb hK hP 1 0 rfl rfl (by unfold vp_in; decide) (rfl) (rfl) dN_second_327 ?_
    refine lv_ldc2d hx hb hown (hts _ tw_d_N_60) dN_second_328 ?_
    refine lv_dmul hx hb dN_second_331 (h5.2.1) ?_
    refine lv_goto (tgt := 337) hx hb dN_second_332 (by decide) ?_
    refine ct_topd (y := y5 (s4 b Cc) Cc) (by unfold y5 lesD; rw [if_pos (Classical.not_not.mp fun h => c_1 ((cv_g_ge _).mpr h))]) ?_
    refine lv_dstore (lv' := [(8, .double (y5 (s4 b Cc) Cc)), (6, .double (FP.dmul (b 2) (Cc 0))), (0, .ref (ad 0))]) hx hb dN_second_337 hl (by decide) rfl (fun ls hl => ?_)
    exact k ls _ _ hP hD hS (lv_sub hl [0, 2] rfl)
set_option maxHeartbeats 4000000 in
set_option maxRecDepth 100000 in
theorem gN_3 {p : Program} {l : Launch} {e : Env} {s : State} {m : MethodId} {below : List Frame} {meth : Method} {c : Code} {A : Nat → Prop} {dC : Nat → ClassId} {dI : Nat → Nat → Nat} {tt : Nat → Nat} {ad : Nat → Nat} {cA : Nat → ClassId} {Q : State → Prop} (b Cc Rr : Nat → UInt64) (T Ac : UInt64) (gt lt : Int32) (ts : UInt64) (nw st : Int32) (hs : Nat → Int32) (ht : Nat → UInt64) (dc : Int32) (pa : Nat → UInt64) (ib : Nat → Int32) (C : nCx p s m meth c A dC dI tt ad cA) (h3 : ok3 b Rr) (hT9 : ft_P T) (hR8 : rwv T (rmp 4) (mk T) = Rr 8) (k : ∀ (ls : Array Slot) (H : Heap) (locs : List Loc), va_P (dC, dI) cls (wN ad cA (s3 b Rr) T Ac gt lt ts nw st hs ht dc pa ib Cc) H → va_D A (wN ad cA (s3 b Rr) T Ac gt lt ts nw st hs ht dc pa ib Cc) → va_S A s.heap H locs → lv_has ls 15 [(0, .ref (ad 0))] → W p l e ({ frames := 1, cells := 0, slots := 0, locals := 28 } : Room) s m ([.ref (ad 0)] : List Value).toArray below meth c H locs 0 0 Q (F0 m 220 ls [])) : ∀ (ls : Array Slot) (H : Heap) (locs : List Loc), va_P (dC, dI) cls (wN ad cA b T Ac gt lt ts nw st hs ht dc pa ib Cc) H → va_D A (wN ad cA b T Ac gt lt ts nw st hs ht dc pa ib Cc) → va_S A s.heap H locs → lv_has ls 15 [(0, .ref (ad 0))] → W p l e ({ frames := 1, cells := 0, slots := 0, locals := 28 } : Room) s m ([.ref (ad 0)] : List Value).toArray below meth c H locs 0 0 Q (F0 m 176 ls []) := by
  obtain ⟨hx, hb, hr, hts, hown, hml, hlocks, hA, hK, hT⟩ := id C
  intro ls H locs hP hD hS hl
  refine lv_aload_n hx hb dN_second_176 rfl (lv_at hl 0 rfl) ?_
  refine va_get (D := (dC, dI)) (ci := 3) (v := .ref (ad 1)) (C := "MashEnzymesModel") (T := F_N) (N := 14) hx hb hts in_N hown hK hP 0 rfl rfl 0 (by decide) (hts _ tw_f_N_9) (fun _ h9 => h9) rfl dN_second_177 ?_
  refine lv_iconst (v := 1) hx hb dN_second_180 (by decide) ?_
  refine ct_dald (k := 1) (v := b 1) hx hb hK hP 1 0 rfl rfl (by unfold vp_in; decide) (rfl) (rfl) dN_second_181 ?_
  refine lv_aload_n hx hb dN_second_182 rfl (lv_at hl 0 rfl) ?_
  refine lv_iconst (v := 4) hx hb dN_second_183 (by decide) ?_
  refine ct_cvd (As := [.int 4]) (rest := [.double (b 1)]) (wr := []) (w1 := (wN ad cA b T Ac gt lt ts nw st hs ht dc pa ib Cc)) ⟨hx, hb, hml, hown, hts⟩ (cN_row l dC dI tt _ ad cA b T Ac gt lt ts nw st hs ht dc pa ib Cc 4 (by decide) hT9) (gT_V tw_m_N_91 tw_i_yN_row tw_s_yN_row tw_I_N tw_c_yN_row) ⟨rfl, by decide +kernel, by decide +kernel, (by decide +kernel : (parseMethodDescriptor yN_row.desc).map (fun d => d.parameters.length) = some 1)⟩ ⟨by decide, by decide⟩ (ci := 3) rfl rfl rfl hP hD hK hS hA hT [0, 1, 2, 3, 4, 5, 6] [] [0, 1, 2, 3, 4, 5] (by decide) rfl rfl (by decide) (by decide) rfl hl.1 rfl (Nat.le_of_ble_eq_true rfl) dN_second_184 ⟨by decide, by decide⟩ (fun H locs hP hD hS => ?_)
  have hP : va_P (dC, dI) cls (wN ad cA b T Ac gt lt ts nw st hs ht dc pa ib Cc) H := hP
  have hD : va_D A (wN ad cA b T Ac gt lt ts nw st hs ht dc pa ib Cc) := hD
  refine ct_topd (y := Rr 8) hR8 ?_
  refine lv_dmul hx hb dN_second_187 (h3.1) ?_
  refine lv_dstore (lv' := [(4, .double (FP.dmul (b 1) (Rr 8))), (0, .ref (ad 0))]) hx hb dN_second_188 hl (by decide) rfl (fun ls hl => ?_)
  refine lv_aload_n hx hb dN_second_190 rfl (lv_at hl 1 rfl) ?_
  refine va_get (D := (dC, dI)) (ci := 3) (v := .ref (ad 1)) (C := "MashEnzymesModel") (T := F_N) (N := 14) hx hb hts in_N hown hK hP 0 rfl rfl 0 (by decide) (hts _ tw_f_N_9) (fun _ h9 => h9) rfl dN_second_191 ?_
  refine lv_iconst (v := 1) hx hb dN_second_194 (by decide) ?_
  refine lv_aload_n hx hb dN_second_195 rfl (lv_at hl 1 rfl) ?_
  refine va_get (D := (dC, dI)) (ci := 3) (v := .ref (ad 1)) (C := "MashEnzymesModel") (T := F_N) (N := 14) hx hb hts in_N hown hK hP 0 rfl rfl 0 (by decide) (hts _ tw_f_N_9) (fun _ h9 => h9) rfl dN_second_196 ?_
  refine lv_iconst (v := 1) hx hb dN_second_199 (by decide) ?_
  refine ct_dald (k := 1) (v := b 1) hx hb hK hP 1 0 rfl rfl (by unfold vp_in; decide) (rfl) (rfl) dN_second_200 ?_
  refine lv_dload hx hb dN_second_201 (lv_at hl 0 rfl) ?_
  refine lv_dsub hx hb dN_second_203 (h3.2.1) ?_
  refine ct_dast (k := 1) (w1 := (wN ad cA (vf_upd b 1 (FP.dsub (b 1) (FP.dmul (b 1) (Rr 8)))) T Ac gt lt ts nw st hs ht dc pa ib Cc)) hx hb hK hP hD hS 1 0 rfl rfl (by unfold vp_in; decide) (rfl) (rfl) dN_second_204 (fun H locs hP hD hS => ?_)
  refine lv_aload_n hx hb dN_second_205 rfl (lv_at hl 1 rfl) ?_
  refine va_get (D := (dC, dI)) (ci := 3) (v := .ref (ad 1)) (C := "MashEnzymesModel") (T := F_N) (N := 14) hx hb hts in_N hown hK hP 0 rfl rfl 0 (by decide) (hts _ tw_f_N_9) (fun _ h9 => h9) rfl dN_second_206 ?_
  refine lv_iconst (v := 2) hx hb dN_second_209 (by decide) ?_
  refine lv_aload_n hx hb dN_second_210 rfl (lv_at hl 1 rfl) ?_
  refine va_get (D := (dC, dI)) (ci := 3) (v := .ref (ad 1)) (C := "MashEnzymesModel") (T := F_N) (N := 14) hx hb hts in_N hown hK hP 0 rfl rfl 0 (by decide) (hts _ tw_f_N_9) (fun _ h9 => h9) rfl dN_second_211 ?_
  refine lv_iconst (v := 2) hx hb dN_second_214 (by decide) ?_
  refine ct_dald (k := 2) (v := b 2) hx hb hK hP 1 0 rfl rfl (by unfold vp_in; decide) (rfl) (rfl) dN_second_215 ?_
  refine lv_dload hx hb dN_second_216 (lv_at hl 0 rfl) ?_
  refine lv_dadd hx hb dN_second_218 (h3.2.2) ?_
  refine ct_dast (k := 2) (w1 := (wN ad cA (s3 b Rr) T Ac gt lt ts nw st hs ht dc pa ib Cc)) hx hb hK hP hD hS 1 0 rfl rfl (by unfold vp_in; decide) (rfl) (rfl) dN_second_219 (fun H locs hP hD hS => ?_)
  exact k ls _ _ hP hD hS (lv_sub hl [1] rfl)
set_option maxHeartbeats 4000000 in
set_option maxRecDepth 100000 in
theorem kN_keyE {p : Program} {l : Launch} {e : Env} {s : State} {m : MethodId} {below : List Frame} {meth : Method} {c : Code} {A : Nat → Prop} {dC : Nat → ClassId} {dI : Nat → Nat → Nat} {tt : Nat → Nat} {ad : Nat → Nat} {cA : Nat → ClassId} {Ac : UInt64} {gt lt : Int32} {ts : UInt64} {c0 : Nat} {hs : Nat → Int32} {ht : Nat → UInt64} {dc : Int32} {pa : Nat → UInt64} {ib : Nat → Int32} {u : SN} (hc32 : c0 ≤ 32) (hAc : ft_P Ac) (hok : okN hs ht c0 Ac u) (C : nCx p s m meth c A dC dI tt ad cA) : ∀ (n i : Nat) (ls : Array Slot) (H : Heap) (locs : List Loc), n + i = 4 → va_P (dC, dI) cls (wN ad cA (s8 (sq7 u.1 (snR hs ht c0 u) (snC hs ht c0 Ac u)) (snR hs ht c0 u) i) (snT hs ht c0 u) Ac gt lt ts u.2.2.1 (nI c0) hs ht dc pa ib (snC hs ht c0 Ac u)) H → va_D A (wN ad cA (s8 (sq7 u.1 (snR hs ht c0 u) (snC hs ht c0 Ac u)) (snR hs ht c0 u) i) (snT hs ht c0 u) Ac gt lt ts u.2.2.1 (nI c0) hs ht dc pa ib (snC hs ht c0 Ac u)) → va_S A s.heap H locs → lv_has ls 15 [(14, .int (nI i)), (0, .ref (ad 0))] → W p l e ({ frames := 1, cells := 0, slots := 0, locals := 28 } : Room) s m ([.ref (ad 0)] : List Value).toArray below meth c H locs 0 0 (MQ below (ctQv dC dI (tN cA) (wR ad cA Ac gt lt ts c0 hs ht dc pa ib (secN hs ht c0 Ac u)) A) ([.ref (ad 0)] : List Value).toArray s 0 0 A) (F0 m 551 ls []) := by
  obtain ⟨hx, hb, hr, hts, hown, hml, hlocks, hA, hK, hT⟩ := id C
  have hT1 : ft_P (snT hs ht c0 u) := hok.2.1
  have hq := hok.2.2
  intro n
  induction n with
  | zero =>
    intro i ls H locs hni hP hD hS hl
    refine lv_iload hx hb dN_second_551 (lv_at hl 0 rfl) ?_
    refine lv_iconst (v := 4) hx hb dN_second_553 (by decide) ?_
    refine lv_icmp_ge (tgt := 603) hx hb dN_second_554 (by decide) (fun c_1 => ?_) (fun c_1 => ?_)
    · have hi : i = 4 := by omega
      subst hi
      refine lv_aload_n hx hb dN_second_603 rfl (lv_at hl 1 rfl) ?_
      refine lv_dup hx hb dN_second_604 rfl ?_
      refine va_get (D := (dC, dI)) (ci := 3) (v := .int u.2.2.1) (C := "MashEnzymesModel") (T := F_N) (N := 14) hx hb hts in_N hown hK hP 0 rfl rfl 6 (by decide) (hts _ tw_f_N_71) (fun _ h9 => h9) rfl dN_second_605 ?_
      refine lv_iconst (v := 1) hx hb dN_second_608 (by decide) ?_
      refine lv_iadd hx hb dN_second_609 ?_
      refine va_put (D := (dC, dI)) (ci := 3) (v := .int (u.2.2.1 + 1)) (ty := .int) (C := "MashEnzymesModel") (T := F_N) (N := 14) hx hb hts in_N t_N t_N_ok n_N hown hK hP hD hS 0 rfl rfl 6 (by decide) (hts _ tw_f_N_71) (fun _ h9 => h9) rfl (by decide +kernel) rfl rfl (Nat.le_of_ble_eq_true rfl) dN_second_610 (fun H locs hP hD hS => ?_)
      have hP : va_P (dC, dI) cls (wN ad cA (s8 (sq7 u.1 (snR hs ht c0 u) (snC hs ht c0 Ac u)) (snR hs ht c0 u) 4) (snT hs ht c0 u) Ac gt lt ts (u.2.2.1 + 1) (nI c0) hs ht dc pa ib (snC hs ht c0 Ac u)) H := hP
      have hD : va_D A (wN ad cA (s8 (sq7 u.1 (snR hs ht c0 u) (snC hs ht c0 Ac u)) (snR hs ht c0 u) 4) (snT hs ht c0 u) Ac gt lt ts (u.2.2.1 + 1) (nI c0) hs ht dc pa ib (snC hs ht c0 Ac u)) := hD
      exact ct_vret hx hb hr hlocks hP hK hD hS dN_second_613
    · exact absurd (nI_le (a := 4) (b := i) (by omega) (by omega)) c_1
  | succ n ih =>
    intro i ls H locs hni hP hD hS hl
    refine lv_iload hx hb dN_second_551 (lv_at hl 0 rfl) ?_
    refine lv_iconst (v := 4) hx hb dN_second_553 (by decide) ?_
    refine lv_icmp_ge (tgt := 603) hx hb dN_second_554 (by decide) (fun c_2 => ?_) (fun c_2 => ?_)
    · exact absurd ((nI_leI (a := 4) (b := i) (by decide) (by omega)).mp c_2) (by omega)
    · have hi : i < 4 := by omega
      refine lv_aload_n hx hb dN_second_557 rfl (lv_at hl 1 rfl) ?_
      refine va_get (D := (dC, dI)) (ci := 3) (v := .ref (ad 1)) (C := "MashEnzymesModel") (T := F_N) (N := 14) hx hb hts in_N hown hK hP 0 rfl rfl 0 (by decide) (hts _ tw_f_N_9) (fun _ h9 => h9) rfl dN_second_558 ?_
      refine lv_bipush (v := 9) hx hb dN_second_561 (by decide) ?_
      refine lv_iload hx hb dN_second_563 (lv_at hl 0 rfl) ?_
      refine lv_iadd hx hb dN_second_565 ?_
      refine ct_topi (y := nI (9 + i)) (by rw [show (9 : Int32) = nI 9 from rfl, nI_add]) ?_
      refine lv_aload_n hx hb dN_second_566 rfl (lv_at hl 1 rfl) ?_
      refine va_get (D := (dC, dI)) (ci := 3) (v := .ref (ad 1)) (C := "MashEnzymesModel") (T := F_N) (N := 14) hx hb hts in_N hown hK hP 0 rfl rfl 0 (by decide) (hts _ tw_f_N_9) (fun _ h9 => h9) rfl dN_second_567 ?_
      refine lv_bipush (v := 9) hx hb dN_second_570 (by decide) ?_
      refine lv_iload hx hb dN_second_572 (lv_at hl 0 rfl) ?_
      refine lv_iadd hx hb dN_second_574 ?_
      refine ct_topi (y := nI (9 + i)) (by rw [show (9 : Int32) = nI 9 from rfl, nI_add]) ?_
      refine ct_dald (k := (9 + i)) (v := (sq7 u.1 (snR hs ht c0 u) (snC hs ht c0 Ac u)) (9 + i)) hx hb hK hP 1 0 rfl rfl (vp_in_nI (by omega) (by decide)) (nI_clamp (by omega)) (s8_at _ _ i) dN_second_575 ?_
      refine lv_aload_n hx hb dN_second_576 rfl (lv_at hl 1 rfl) ?_
      refine va_get (D := (dC, dI)) (ci := 3) (v := .ref (ad 1)) (C := "MashEnzymesModel") (T := F_N) (N := 14) hx hb hts in_N hown hK hP 0 rfl rfl 0 (by decide) (hts _ tw_f_N_9) (fun _ h9 => h9) rfl dN_second_577 ?_
      refine lv_bipush (v := 9) hx hb dN_second_580 (by decide) ?_
      refine lv_iload hx hb dN_second_582 (lv_at hl 0 rfl) ?_
      refine lv_iadd hx hb dN_second_584 ?_
      refine ct_topi (y := nI (9 + i)) (by rw [show (9 : Int32) = nI 9 from rfl, nI_add]) ?_
      refine ct_dald (k := (9 + i)) (v := (sq7 u.1 (snR hs ht c0 u) (snC hs ht c0 Ac u)) (9 + i)) hx hb hK hP 1 0 rfl rfl (vp_in_nI (by omega) (by decide)) (nI_clamp (by omega)) (s8_at _ _ i) dN_second_585 ?_
      refine lv_aload_n hx hb dN_second_586 rfl (lv_at hl 1 rfl) ?_
      refine lv_iconst (v := 5) hx hb dN_second_587 (by decide) ?_
      refine lv_iload hx hb dN_second_588 (lv_at hl 0 rfl) ?_
      refine lv_iadd hx hb dN_second_590 ?_
      refine ct_topi (y := nI (5 + i)) (by rw [show (5 : Int32) = nI 5 from rfl, nI_add]) ?_
      refine ct_cvd (As := [.int (nI (5 + i))]) (rest := [.double ((sq7 u.1 (snR hs ht c0 u) (snC hs ht c0 Ac u)) (9 + i)), .double ((sq7 u.1 (snR hs ht c0 u) (snC hs ht c0 Ac u)) (9 + i)), .int (nI (9 + i)), .ref (ad 1)]) (wr := []) (w1 := (wN ad cA (s8 (sq7 u.1 (snR hs ht c0 u) (snC hs ht c0 Ac u)) (snR hs ht c0 u) i) (snT hs ht c0 u) Ac gt lt ts u.2.2.1 (nI c0) hs ht dc pa ib (snC hs ht c0 Ac u))) ⟨hx, hb, hml, hown, hts⟩ (cN_row l dC dI tt _ ad cA (s8 (sq7 u.1 (snR hs ht c0 u) (snC hs ht c0 Ac u)) (snR hs ht c0 u) i) (snT hs ht c0 u) Ac gt lt ts u.2.2.1 (nI c0) hs ht dc pa ib (snC hs ht c0 Ac u) (5 + i) (by omega) hT1) (gT_V tw_m_N_91 tw_i_yN_row tw_s_yN_row tw_I_N tw_c_yN_row) ⟨rfl, by decide +kernel, by decide +kernel, (by decide +kernel : (parseMethodDescriptor yN_row.desc).map (fun d => d.parameters.length) = some 1)⟩ ⟨by decide, by decide⟩ (ci := 3) rfl rfl rfl hP hD hK hS hA hT [0, 1, 2, 3, 4, 5, 6] [] [0, 1, 2, 3, 4, 5] (by decide) rfl rfl (by decide) (by decide) rfl hl.1 rfl (Nat.le_of_ble_eq_true rfl) dN_second_591 ⟨by decide, by decide⟩ (fun H locs hP hD hS => ?_)
      have hP : va_P (dC, dI) cls (wN ad cA (s8 (sq7 u.1 (snR hs ht c0 u) (snC hs ht c0 Ac u)) (snR hs ht c0 u) i) (snT hs ht c0 u) Ac gt lt ts u.2.2.1 (nI c0) hs ht dc pa ib (snC hs ht c0 Ac u)) H := hP
      have hD : va_D A (wN ad cA (s8 (sq7 u.1 (snR hs ht c0 u) (snC hs ht c0 Ac u)) (snR hs ht c0 u) i) (snT hs ht c0 u) Ac gt lt ts u.2.2.1 (nI c0) hs ht dc pa ib (snC hs ht c0 Ac u)) := hD
      refine ct_topd (y := (snR hs ht c0 u) (4 + i)) (by unfold snR; rw [rwA_in _ (by omega), show rmp (5 + i) = 4 + i by unfold rmp; rw [if_neg (by omega), if_neg (by omega)]; omega]) ?_
      refine lv_dmul hx hb dN_second_594 ((hq.2.2.2.2.2.2 i hi).1) ?_
      refine lv_dsub hx hb dN_second_595 ((hq.2.2.2.2.2.2 i hi).2) ?_
      refine ct_dast (k := (9 + i)) (w1 := (wN ad cA (s8 (sq7 u.1 (snR hs ht c0 u) (snC hs ht c0 Ac u)) (snR hs ht c0 u) (i + 1)) (snT hs ht c0 u) Ac gt lt ts u.2.2.1 (nI c0) hs ht dc pa ib (snC hs ht c0 Ac u))) hx hb hK hP hD hS 1 0 rfl rfl (vp_in_nI (by omega) (by decide)) (nI_clamp (by omega)) (by rw [← s8_s]; rfl) dN_second_596 (fun H locs hP hD hS => ?_)
      refine lv_iinc (v := (nI (i + 1))) (lv' := [(14, .int (nI (i + 1))), (0, .ref (ad 0))]) hx hb dN_second_597 hl (k := 0) rfl (nI_1 i) (by decide) rfl (fun ls hl => ?_)
      refine lv_goto (tgt := 551) hx hb dN_second_600 (by decide) ?_
      exact ih (i + 1) ls H locs (by omega) hP hD hS (lv_sub hl [0, 1] rfl)
set_option maxHeartbeats 4000000 in
set_option maxRecDepth 100000 in
theorem kN_key176 {p : Program} {l : Launch} {e : Env} {s : State} {m : MethodId} {below : List Frame} {meth : Method} {c : Code} {A : Nat → Prop} {dC : Nat → ClassId} {dI : Nat → Nat → Nat} {tt : Nat → Nat} {ad : Nat → Nat} {cA : Nat → ClassId} {Ac : UInt64} {gt lt : Int32} {ts : UInt64} {c0 : Nat} {hs : Nat → Int32} {ht : Nat → UInt64} {dc : Int32} {pa : Nat → UInt64} {ib : Nat → Int32} {u : SN} (hc32 : c0 ≤ 32) (hAc : ft_P Ac) (hok : okN hs ht c0 Ac u) (C : nCx p s m meth c A dC dI tt ad cA) : ∀ (ls : Array Slot) (H : Heap) (locs : List Loc), va_P (dC, dI) cls (wN ad cA u.1 (snT hs ht c0 u) Ac gt lt ts u.2.2.1 (nI c0) hs ht dc pa ib (snC hs ht c0 Ac u)) H → va_D A (wN ad cA u.1 (snT hs ht c0 u) Ac gt lt ts u.2.2.1 (nI c0) hs ht dc pa ib (snC hs ht c0 Ac u)) → va_S A s.heap H locs → lv_has ls 15 [(0, .ref (ad 0))] → W p l e ({ frames := 1, cells := 0, slots := 0, locals := 28 } : Room) s m ([.ref (ad 0)] : List Value).toArray below meth c H locs 0 0 (MQ below (ctQv dC dI (tN cA) (wR ad cA Ac gt lt ts c0 hs ht dc pa ib (secN hs ht c0 Ac u)) A) ([.ref (ad 0)] : List Value).toArray s 0 0 A) (F0 m 176 ls []) := by
  obtain ⟨hx, hb, hr, hts, hown, hml, hlocks, hA, hK, hT⟩ := id C
  have hT1 : ft_P (snT hs ht c0 u) := hok.2.1
  have hq := hok.2.2
  have keyE := kN_keyE (l := l) (e := e) (below := below) (gt := gt) (lt := lt) (ts := ts) (dc := dc) (pa := pa) (ib := ib) hc32 hAc hok C
  intro ls H locs hP hD hS hl
  exact gN_3 (l := l) (e := e) (below := below) u.1 (snC hs ht c0 Ac u) (snR hs ht c0 u) (snT hs ht c0 u) Ac gt lt ts u.2.2.1 (nI c0) hs ht dc pa ib C hq.2.1 hT1 (by unfold snR; rw [rwA_in _ (by decide)]; rfl) (gN_4 (sq3 u.1 (snR hs ht c0 u)) (snC hs ht c0 Ac u) (snR hs ht c0 u) (snT hs ht c0 u) Ac gt lt ts u.2.2.1 (nI c0) hs ht dc pa ib C hq.2.2.1 hq.2.2.2.1 (gN_5 (sq4 u.1 (snR hs ht c0 u) (snC hs ht c0 Ac u)) (snC hs ht c0 Ac u) (snR hs ht c0 u) (snT hs ht c0 u) Ac gt lt ts u.2.2.1 (nI c0) hs ht dc pa ib C hq.2.2.2.1 hq.2.2.2.2.1 (gN_6 (sq5 u.1 (snR hs ht c0 u) (snC hs ht c0 Ac u)) (snC hs ht c0 Ac u) (snR hs ht c0 u) (snT hs ht c0 u) Ac gt lt ts u.2.2.1 (nI c0) hs ht dc pa ib C hq.2.2.2.2.1 hq.2.2.2.2.2.1 (fun ls H locs hP hD hS hl => keyE 4 0 ls _ _ rfl (by rw [s8_0]; exact hP) (by rw [s8_0]; exact hD) hS hl)))) ls H locs hP hD hS hl
set_option maxHeartbeats 4000000 in
set_option maxRecDepth 100000 in
theorem kN_keyA {p : Program} {l : Launch} {e : Env} {s : State} {m : MethodId} {below : List Frame} {meth : Method} {c : Code} {A : Nat → Prop} {dC : Nat → ClassId} {dI : Nat → Nat → Nat} {tt : Nat → Nat} {ad : Nat → Nat} {cA : Nat → ClassId} {Ac : UInt64} {gt lt : Int32} {ts : UInt64} {c0 : Nat} {hs : Nat → Int32} {ht : Nat → UInt64} {dc : Int32} {pa : Nat → UInt64} {ib : Nat → Int32} {u : SN} (hc32 : c0 ≤ 32) (hAc : ft_P Ac) (hok : okN hs ht c0 Ac u) (C : nCx p s m meth c A dC dI tt ad cA) : ∀ (n i : Nat) (ls : Array Slot) (H : Heap) (locs : List Loc), n + i = 4 → va_P (dC, dI) cls (wN ad cA u.1 (snT hs ht c0 u) Ac gt lt ts u.2.2.1 (nI c0) hs ht dc pa ib (actA u.1 (snR hs ht c0 u) Ac i u.2.1)) H → va_D A (wN ad cA u.1 (snT hs ht c0 u) Ac gt lt ts u.2.2.1 (nI c0) hs ht dc pa ib (actA u.1 (snR hs ht c0 u) Ac i u.2.1)) → va_S A s.heap H locs → lv_has ls 15 [(4, .int (nI i)), (2, .double (fitA Ac)), (0, .ref (ad 0))] → W p l e ({ frames := 1, cells := 0, slots := 0, locals := 28 } : Room) s m ([.ref (ad 0)] : List Value).toArray below meth c H locs 0 0 (MQ below (ctQv dC dI (tN cA) (wR ad cA Ac gt lt ts c0 hs ht dc pa ib (secN hs ht c0 Ac u)) A) ([.ref (ad 0)] : List Value).toArray s 0 0 A) (F0 m 109 ls []) := by
  obtain ⟨hx, hb, hr, hts, hown, hml, hlocks, hA, hK, hT⟩ := id C
  have hT1 : ft_P (snT hs ht c0 u) := hok.2.1
  have hq := hok.2.2
  have keyE := kN_keyE (l := l) (e := e) (below := below) (gt := gt) (lt := lt) (ts := ts) (dc := dc) (pa := pa) (ib := ib) hc32 hAc hok C
  have key176 := kN_key176 (l := l) (e := e) (below := below) (gt := gt) (lt := lt) (ts := ts) (dc := dc) (pa := pa) (ib := ib) hc32 hAc hok C
  intro n
  induction n with
  | zero =>
    intro i ls H locs hni hP hD hS hl
    refine lv_iload hx hb dN_second_109 (lv_at hl 0 rfl) ?_
    refine lv_iconst (v := 4) hx hb dN_second_111 (by decide) ?_
    refine lv_icmp_ge (tgt := 176) hx hb dN_second_112 (by decide) (fun c_3 => ?_) (fun c_3 => ?_)
    · have hi : i = 4 := by omega
      subst hi
      exact key176 ls _ _ hP hD hS (lv_sub hl [2] rfl)
    · exact absurd (nI_le (a := 4) (b := i) (by omega) (by omega)) c_3
  | succ n ih =>
    intro i ls H locs hni hP hD hS hl
    refine lv_iload hx hb dN_second_109 (lv_at hl 0 rfl) ?_
    refine lv_iconst (v := 4) hx hb dN_second_111 (by decide) ?_
    refine lv_icmp_ge (tgt := 176) hx hb dN_second_112 (by decide) (fun c_4 => ?_) (fun c_4 => ?_)
    · exact absurd ((nI_leI (a := 4) (b := i) (by decide) (by omega)).mp c_4) (by omega)
    · have hi : i < 4 := by omega
      refine lv_aload_n hx hb dN_second_115 rfl (lv_at hl 2 rfl) ?_
      refine va_get (D := (dC, dI)) (ci := 3) (v := .ref (ad 1)) (C := "MashEnzymesModel") (T := F_N) (N := 14) hx hb hts in_N hown hK hP 0 rfl rfl 0 (by decide) (hts _ tw_f_N_9) (fun _ h9 => h9) rfl dN_second_116 ?_
      refine lv_bipush (v := 9) hx hb dN_second_119 (by decide) ?_
      refine lv_iload hx hb dN_second_121 (lv_at hl 0 rfl) ?_
      refine lv_iadd hx hb dN_second_123 ?_
      refine ct_topi (y := nI (9 + i)) (by rw [show (9 : Int32) = nI 9 from rfl, nI_add]) ?_
      refine ct_dald (k := (9 + i)) (v := u.1 (9 + i)) hx hb hK hP 1 0 rfl rfl (vp_in_nI (by omega) (by decide)) (nI_clamp (by omega)) (rfl) dN_second_124 ?_
      refine lv_aload_n hx hb dN_second_125 rfl (lv_at hl 2 rfl) ?_
      refine lv_iload hx hb dN_second_126 (lv_at hl 0 rfl) ?_
      refine ct_cvd (As := [.int (nI i)]) (rest := [.double (u.1 (9 + i))]) (wr := []) (w1 := (wN ad cA u.1 (snT hs ht c0 u) Ac gt lt ts u.2.2.1 (nI c0) hs ht dc pa ib (actA u.1 (snR hs ht c0 u) Ac i u.2.1))) ⟨hx, hb, hml, hown, hts⟩ (cN_row l dC dI tt _ ad cA u.1 (snT hs ht c0 u) Ac gt lt ts u.2.2.1 (nI c0) hs ht dc pa ib (actA u.1 (snR hs ht c0 u) Ac i u.2.1) i (by omega) hT1) (gT_V tw_m_N_91 tw_i_yN_row tw_s_yN_row tw_I_N tw_c_yN_row) ⟨rfl, by decide +kernel, by decide +kernel, (by decide +kernel : (parseMethodDescriptor yN_row.desc).map (fun d => d.parameters.length) = some 1)⟩ ⟨by decide, by decide⟩ (ci := 3) rfl rfl rfl hP hD hK hS hA hT [0, 1, 2, 3, 4, 5, 6] [] [0, 1, 2, 3, 4, 5] (by decide) rfl rfl (by decide) (by decide) rfl hl.1 rfl (Nat.le_of_ble_eq_true rfl) dN_second_128 ⟨by decide, by decide⟩ (fun H locs hP hD hS => ?_)
      have hP : va_P (dC, dI) cls (wN ad cA u.1 (snT hs ht c0 u) Ac gt lt ts u.2.2.1 (nI c0) hs ht dc pa ib (actA u.1 (snR hs ht c0 u) Ac i u.2.1)) H := hP
      have hD : va_D A (wN ad cA u.1 (snT hs ht c0 u) Ac gt lt ts u.2.2.1 (nI c0) hs ht dc pa ib (actA u.1 (snR hs ht c0 u) Ac i u.2.1)) := hD
      refine ct_topd (y := (snR hs ht c0 u) i) (by unfold snR; rw [rwA_in _ (by omega), show rmp i = i from if_pos hi]) ?_
      refine lv_dmul hx hb dN_second_131 ((hq.1 i hi).1) ?_
      refine lv_dload_n hx hb dN_second_132 rfl (lv_at hl 1 rfl) ?_
      refine lv_dmul hx hb dN_second_133 ((hq.1 i hi).2.1) ?_
      refine lv_dstore (lv' := [(5, .double (FP.dmul (FP.dmul (u.1 (9 + i)) ((snR hs ht c0 u) i)) (fitA Ac))), (4, .int (nI i)), (2, .double (fitA Ac)), (0, .ref (ad 0))]) hx hb dN_second_134 hl (by decide) rfl (fun ls hl => ?_)
      refine lv_aload_n hx hb dN_second_136 rfl (lv_at hl 3 rfl) ?_
      refine va_get (D := (dC, dI)) (ci := 3) (v := .ref (ad 6)) (C := "MashEnzymesModel") (T := F_N) (N := 14) hx hb hts in_N hown hK hP 0 rfl rfl 13 (by decide) (hts _ tw_f_N_27) (fun _ h9 => h9) rfl dN_second_137 ?_
      refine lv_iload hx hb dN_second_140 (lv_at hl 1 rfl) ?_
      refine lv_dload hx hb dN_second_142 (lv_at hl 0 rfl) ?_
      refine lv_dconst0 hx hb dN_second_144 ?_
      refine ct_topd (y := 0) rfl ?_
      refine lv_dcmp hx hb dN_second_145 ?_
      refine lv_if_le (tgt := 168) hx hb dN_second_146 (by decide) (fun c_5 => ?_) (fun c_5 => ?_)
      · have hg : ¬ FP.dcmp (FP.dmul (FP.dmul (u.1 (9 + i)) ((snR hs ht c0 u) i)) (fitA Ac)) 0 = some .gt := (cv_l_le _).mp c_5
        have hE : actE u.1 (snR hs ht c0 u) Ac i = 0 := by unfold actE actX; exact if_neg hg
        refine lv_dconst0 hx hb dN_second_168 ?_
        refine ct_topd (y := 0) rfl ?_
        refine ct_dast (k := i) (w1 := (wN ad cA u.1 (snT hs ht c0 u) Ac gt lt ts u.2.2.1 (nI c0) hs ht dc pa ib (actA u.1 (snR hs ht c0 u) Ac (i + 1) u.2.1))) hx hb hK hP hD hS 6 5 rfl rfl (vp_in_nI (by omega) (by decide)) (nI_clamp (by omega)) (by rw [← actA_s, hE]; rfl) dN_second_169 (fun H locs hP hD hS => ?_)
        refine lv_iinc (v := (nI (i + 1))) (lv' := [(4, .int (nI (i + 1))), (5, .double (FP.dmul (FP.dmul (u.1 (9 + i)) ((snR hs ht c0 u) i)) (fitA Ac))), (2, .double (fitA Ac)), (0, .ref (ad 0))]) hx hb dN_second_170 hl (k := 1) rfl (nI_1 i) (by decide) rfl (fun ls hl => ?_)
        refine lv_goto (tgt := 109) hx hb dN_second_173 (by decide) ?_
        exact ih (i + 1) ls H locs (by omega) hP hD hS (lv_sub hl [0, 2, 3] rfl)
      · have hg : FP.dcmp (FP.dmul (FP.dmul (u.1 (9 + i)) ((snR hs ht c0 u) i)) (fitA Ac)) 0 = some .gt := Classical.not_not.mp fun h => c_5 ((cv_l_le _).mpr h)
        have hE : actE u.1 (snR hs ht c0 u) Ac i = FP.dmul (FP.ddiv (FP.dmul (FP.dmul (u.1 (9 + i)) ((snR hs ht c0 u) i)) (fitA Ac)) (FP.dadd (FP.dmul (FP.dmul (u.1 (9 + i)) ((snR hs ht c0 u) i)) (fitA Ac)) (u.1 0))) 4589168020290535424 := by unfold actE actX; exact if_pos hg
        refine lv_dload hx hb dN_second_149 (lv_at hl 0 rfl) ?_
        refine lv_dload hx hb dN_second_151 (lv_at hl 0 rfl) ?_
        refine lv_aload_n hx hb dN_second_153 rfl (lv_at hl 3 rfl) ?_
        refine va_get (D := (dC, dI)) (ci := 3) (v := .ref (ad 1)) (C := "MashEnzymesModel") (T := F_N) (N := 14) hx hb hts in_N hown hK hP 0 rfl rfl 0 (by decide) (hts _ tw_f_N_9) (fun _ h9 => h9) rfl dN_second_154 ?_
        refine lv_iconst (v := 0) hx hb dN_second_157 (by decide) ?_
        refine ct_dald (k := 0) (v := u.1 0) hx hb hK hP 1 0 rfl rfl (by unfold vp_in; decide) (rfl) (rfl) dN_second_158 ?_
        refine lv_dadd hx hb dN_second_159 (((hq.1 i hi).2.2 hg).1) ?_
        refine lv_ddiv hx hb dN_second_160 (((hq.1 i hi).2.2 hg).2.1) ?_
        refine lv_ldc2d hx hb hown (hts _ tw_d_N_38) dN_second_161 ?_
        refine lv_dmul hx hb dN_second_164 (((hq.1 i hi).2.2 hg).2.2) ?_
        refine lv_goto (tgt := 169) hx hb dN_second_165 (by decide) ?_
        refine ct_dast (k := i) (w1 := (wN ad cA u.1 (snT hs ht c0 u) Ac gt lt ts u.2.2.1 (nI c0) hs ht dc pa ib (actA u.1 (snR hs ht c0 u) Ac (i + 1) u.2.1))) hx hb hK hP hD hS 6 5 rfl rfl (vp_in_nI (by omega) (by decide)) (nI_clamp (by omega)) (by rw [← actA_s, hE]; rfl) dN_second_169 (fun H locs hP hD hS => ?_)
        refine lv_iinc (v := (nI (i + 1))) (lv' := [(4, .int (nI (i + 1))), (5, .double (FP.dmul (FP.dmul (u.1 (9 + i)) ((snR hs ht c0 u) i)) (fitA Ac))), (2, .double (fitA Ac)), (0, .ref (ad 0))]) hx hb dN_second_170 hl (k := 1) rfl (nI_1 i) (by decide) rfl (fun ls hl => ?_)
        refine lv_goto (tgt := 109) hx hb dN_second_173 (by decide) ?_
        exact ih (i + 1) ls H locs (by omega) hP hD hS (lv_sub hl [0, 2, 3] rfl)
set_option maxHeartbeats 4000000 in
set_option maxRecDepth 100000 in
theorem kN_key70 {p : Program} {l : Launch} {e : Env} {s : State} {m : MethodId} {below : List Frame} {meth : Method} {c : Code} {A : Nat → Prop} {dC : Nat → ClassId} {dI : Nat → Nat → Nat} {tt : Nat → Nat} {ad : Nat → Nat} {cA : Nat → ClassId} {Ac : UInt64} {gt lt : Int32} {ts : UInt64} {c0 : Nat} {hs : Nat → Int32} {ht : Nat → UInt64} {dc : Int32} {pa : Nat → UInt64} {ib : Nat → Int32} {u : SN} (hc32 : c0 ≤ 32) (hAc : ft_P Ac) (hok : okN hs ht c0 Ac u) (C : nCx p s m meth c A dC dI tt ad cA) : ∀ (ls : Array Slot) (H : Heap) (locs : List Loc), va_P (dC, dI) cls (wN ad cA u.1 (snT hs ht c0 u) Ac gt lt ts u.2.2.1 (nI c0) hs ht dc pa ib u.2.1) H → va_D A (wN ad cA u.1 (snT hs ht c0 u) Ac gt lt ts u.2.2.1 (nI c0) hs ht dc pa ib u.2.1) → va_S A s.heap H locs → lv_has ls 15 [(0, .ref (ad 0))] → W p l e ({ frames := 1, cells := 0, slots := 0, locals := 28 } : Room) s m ([.ref (ad 0)] : List Value).toArray below meth c H locs 0 0 (MQ below (ctQv dC dI (tN cA) (wR ad cA Ac gt lt ts c0 hs ht dc pa ib (secN hs ht c0 Ac u)) A) ([.ref (ad 0)] : List Value).toArray s 0 0 A) (F0 m 70 ls []) := by
  obtain ⟨hx, hb, hr, hts, hown, hml, hlocks, hA, hK, hT⟩ := id C
  have hT1 : ft_P (snT hs ht c0 u) := hok.2.1
  have hq := hok.2.2
  have keyE := kN_keyE (l := l) (e := e) (below := below) (gt := gt) (lt := lt) (ts := ts) (dc := dc) (pa := pa) (ib := ib) hc32 hAc hok C
  have key176 := kN_key176 (l := l) (e := e) (below := below) (gt := gt) (lt := lt) (ts := ts) (dc := dc) (pa := pa) (ib := ib) hc32 hAc hok C
  have keyA := kN_keyA (l := l) (e := e) (below := below) (gt := gt) (lt := lt) (ts := ts) (dc := dc) (pa := pa) (ib := ib) hc32 hAc hok C
  intro ls H locs hP hD hS hl
  refine lv_dconst1 hx hb dN_second_70 ?_
  refine ct_topd (y := 4607182418800017408) rfl ?_
  refine lv_aload_n hx hb dN_second_71 rfl (lv_at hl 0 rfl) ?_
  refine va_get (D := (dC, dI)) (ci := 3) (v := .double Ac) (C := "MashEnzymesModel") (T := F_N) (N := 14) hx hb hts in_N hown hK hP 0 rfl rfl 2 (by decide) (hts _ tw_f_N_65) (fun _ h9 => h9) rfl dN_second_72 ?_
  refine lv_ldc2d hx hb hown (hts _ tw_d_N_89) dN_second_75 ?_
  refine lv_dsub hx hb dN_second_78 ((ft_fitness hAc).1) ?_
  refine lv_aload_n hx hb dN_second_79 rfl (lv_at hl 0 rfl) ?_
  refine va_get (D := (dC, dI)) (ci := 3) (v := .double Ac) (C := "MashEnzymesModel") (T := F_N) (N := 14) hx hb hts in_N hown hK hP 0 rfl rfl 2 (by decide) (hts _ tw_f_N_65) (fun _ h9 => h9) rfl dN_second_80 ?_
  refine lv_ldc2d hx hb hown (hts _ tw_d_N_89) dN_second_83 ?_
  refine lv_dsub hx hb dN_second_86 ((ft_fitness hAc).1) ?_
  refine lv_dmul hx hb dN_second_87 ((ft_fitness hAc).2.1) ?_
  refine lv_ldc2d hx hb hown (hts _ tw_d_N_44) dN_second_88 ?_
  refine lv_dmul hx hb dN_second_91 ((ft_fitness hAc).2.2.1) ?_
  refine lv_dsub hx hb dN_second_92 ((ft_fitness hAc).2.2.2.1) ?_
  refine lv_dstore_n (lv' := [(2, .double (FP.dsub 4607182418800017408 (FP.dmul (FP.dmul (FP.dsub Ac 4617878467915022336) (FP.dsub Ac 4617878467915022336)) 4598175219545276416))), (0, .ref (ad 0))]) hx hb dN_second_93 rfl hl (by decide) rfl (fun ls hl => ?_)
  refine lv_dload_n hx hb dN_second_94 rfl (lv_at hl 0 rfl) ?_
  refine lv_dconst0 hx hb dN_second_95 ?_
  refine ct_topd (y := 0) rfl ?_
  refine lv_dcmp hx hb dN_second_96 ?_
  refine lv_if_ge (tgt := 104) hx hb dN_second_97 (by decide) (fun c_6 => ?_) (fun c_6 => ?_)
  · refine lv_dload_n hx hb dN_second_104 rfl (lv_at hl 0 rfl) ?_
    refine ct_topd (y := fitA Ac) (by unfold fitA; rw [if_neg ((cv_g_ge _).mp c_6)]) ?_
    refine lv_dstore_n (lv' := [(2, .double (fitA Ac)), (0, .ref (ad 0))]) hx hb dN_second_105 rfl hl (by decide) rfl (fun ls hl => ?_)
    refine lv_iconst (v := 0) hx hb dN_second_106 (by decide) ?_
    refine ct_topi (y := nI 0) (rfl) ?_
    refine lv_istore (lv' := [(4, .int (nI 0)), (2, .double (fitA Ac)), (0, .ref (ad 0))]) hx hb dN_second_107 hl (by decide) rfl (fun ls hl => ?_)
    rw [← actA_0 u.1 (snR hs ht c0 u) Ac u.2.1] at hP hD
    exact keyA 4 0 ls _ _ rfl hP hD hS (lv_sub hl [0, 1, 2] rfl)
  · refine lv_dconst0 hx hb dN_second_100 ?_
    refine ct_topd (y := 0) rfl ?_
    refine lv_goto (tgt := 105) hx hb dN_second_101 (by decide) ?_
    refine ct_topd (y := fitA Ac) (by unfold fitA; rw [if_pos (Classical.not_not.mp fun h => c_6 ((cv_g_ge _).mpr h))]) ?_
    refine lv_dstore_n (lv' := [(2, .double (fitA Ac)), (0, .ref (ad 0))]) hx hb dN_second_105 rfl hl (by decide) rfl (fun ls hl => ?_)
    refine lv_iconst (v := 0) hx hb dN_second_106 (by decide) ?_
    refine ct_topi (y := nI 0) (rfl) ?_
    refine lv_istore (lv' := [(4, .int (nI 0)), (2, .double (fitA Ac)), (0, .ref (ad 0))]) hx hb dN_second_107 hl (by decide) rfl (fun ls hl => ?_)
    rw [← actA_0 u.1 (snR hs ht c0 u) Ac u.2.1] at hP hD
    exact keyA 4 0 ls _ _ rfl hP hD hS (lv_sub hl [0, 1, 2] rfl)
set_option maxHeartbeats 4000000 in
set_option maxRecDepth 100000 in
theorem kN_keyK {p : Program} {l : Launch} {e : Env} {s : State} {m : MethodId} {below : List Frame} {meth : Method} {c : Code} {A : Nat → Prop} {dC : Nat → ClassId} {dI : Nat → Nat → Nat} {tt : Nat → Nat} {ad : Nat → Nat} {cA : Nat → ClassId} {Ac : UInt64} {gt lt : Int32} {ts : UInt64} {c0 : Nat} {hs : Nat → Int32} {ht : Nat → UInt64} {dc : Int32} {pa : Nat → UInt64} {ib : Nat → Int32} {u : SN} (hc32 : c0 ≤ 32) (hAc : ft_P Ac) (hok : okN hs ht c0 Ac u) (C : nCx p s m meth c A dC dI tt ad cA) : ∀ (n k : Nat) (ls : Array Slot) (H : Heap) (locs : List Loc), n + k = c0 → fstN hs u.2.2.1 c0 n k = (fst hs u.2.2.1 c0 0) → va_P (dC, dI) cls (wN ad cA u.1 u.2.2.2 Ac gt lt ts u.2.2.1 (nI c0) hs ht dc pa ib u.2.1) H → va_D A (wN ad cA u.1 u.2.2.2 Ac gt lt ts u.2.2.1 (nI c0) hs ht dc pa ib u.2.1) → va_S A s.heap H locs → lv_has ls 15 [(1, .int (nI k)), (0, .ref (ad 0))] → W p l e ({ frames := 1, cells := 0, slots := 0, locals := 28 } : Room) s m ([.ref (ad 0)] : List Value).toArray below meth c H locs 0 0 (MQ below (ctQv dC dI (tN cA) (wR ad cA Ac gt lt ts c0 hs ht dc pa ib (secN hs ht c0 Ac u)) A) ([.ref (ad 0)] : List Value).toArray s 0 0 A) (F0 m 2 ls []) := by
  obtain ⟨hx, hb, hr, hts, hown, hml, hlocks, hA, hK, hT⟩ := id C
  have hT1 : ft_P (snT hs ht c0 u) := hok.2.1
  have hq := hok.2.2
  have keyE := kN_keyE (l := l) (e := e) (below := below) (gt := gt) (lt := lt) (ts := ts) (dc := dc) (pa := pa) (ib := ib) hc32 hAc hok C
  have key176 := kN_key176 (l := l) (e := e) (below := below) (gt := gt) (lt := lt) (ts := ts) (dc := dc) (pa := pa) (ib := ib) hc32 hAc hok C
  have keyA := kN_keyA (l := l) (e := e) (below := below) (gt := gt) (lt := lt) (ts := ts) (dc := dc) (pa := pa) (ib := ib) hc32 hAc hok C
  have key70 := kN_key70 (l := l) (e := e) (below := below) (gt := gt) (lt := lt) (ts := ts) (dc := dc) (pa := pa) (ib := ib) hc32 hAc hok C
  intro n
  induction n with
  | zero =>
    intro k ls H locs hni hm hP hD hS hl
    refine lv_iload_n hx hb dN_second_2 rfl (lv_at hl 0 rfl) ?_
    refine lv_aload_n hx hb dN_second_3 rfl (lv_at hl 1 rfl) ?_
    refine va_get (D := (dC, dI)) (ci := 3) (v := .int (nI c0)) (C := "MashEnzymesModel") (T := F_N) (N := 14) hx hb hts in_N hown hK hP 0 rfl rfl 7 (by decide) (hts _ tw_f_N_75) (fun _ h9 => h9) rfl dN_second_4 ?_
    refine lv_icmp_ge (tgt := 29) hx hb dN_second_7 (by decide) (fun c_7 => ?_) (fun c_7 => ?_)
    · have hkK : k = (fst hs u.2.2.1 c0 0) := hm
      refine lv_iload_n hx hb dN_second_29 rfl (lv_at hl 0 rfl) ?_
      refine lv_aload_n hx hb dN_second_30 rfl (lv_at hl 1 rfl) ?_
      refine va_get (D := (dC, dI)) (ci := 3) (v := .int (nI c0)) (C := "MashEnzymesModel") (T := F_N) (N := 14) hx hb hts in_N hown hK hP 0 rfl rfl 7 (by decide) (hts _ tw_f_N_75) (fun _ h9 => h9) rfl dN_second_31 ?_
      refine lv_icmp_ge (tgt := 70) hx hb dN_second_34 (by decide) (fun c_8 => ?_) (fun c_8 => ?_)
      · have hT9 : snT hs ht c0 u = u.2.2.2 := by unfold snT heatT; rw [if_neg (by omega)]
        have hP : va_P (dC, dI) cls (wN ad cA u.1 (snT hs ht c0 u) Ac gt lt ts u.2.2.1 (nI c0) hs ht dc pa ib u.2.1) _ := (by rw [hT9]; exact hP)
        have hD : va_D A (wN ad cA u.1 (snT hs ht c0 u) Ac gt lt ts u.2.2.1 (nI c0) hs ht dc pa ib u.2.1) := (by rw [hT9]; exact hD)
        exact key70 ls _ _ hP hD hS (lv_sub hl [1] rfl)
      · exact absurd (nI_le (a := c0) (b := k) (by omega) (by omega)) c_8
    · exact absurd (nI_le (a := c0) (b := k) (by omega) (by omega)) c_7
  | succ n ih =>
    intro k ls H locs hni hm hP hD hS hl
    refine lv_iload_n hx hb dN_second_2 rfl (lv_at hl 0 rfl) ?_
    refine lv_aload_n hx hb dN_second_3 rfl (lv_at hl 1 rfl) ?_
    refine va_get (D := (dC, dI)) (ci := 3) (v := .int (nI c0)) (C := "MashEnzymesModel") (T := F_N) (N := 14) hx hb hts in_N hown hK hP 0 rfl rfl 7 (by decide) (hts _ tw_f_N_75) (fun _ h9 => h9) rfl dN_second_4 ?_
    refine lv_icmp_ge (tgt := 29) hx hb dN_second_7 (by decide) (fun c_9 => ?_) (fun c_9 => ?_)
    · exact absurd ((nI_leI (a := c0) (b := k) (by omega) (by omega)).mp c_9) (by omega)
    · refine lv_aload_n hx hb dN_second_10 rfl (lv_at hl 1 rfl) ?_
      refine va_get (D := (dC, dI)) (ci := 3) (v := .ref (ad 2)) (C := "MashEnzymesModel") (T := F_N) (N := 14) hx hb hts in_N hown hK hP 0 rfl rfl 8 (by decide) (hts _ tw_f_N_13) (fun _ h9 => h9) rfl dN_second_11 ?_
      refine lv_iload_n hx hb dN_second_14 rfl (lv_at hl 0 rfl) ?_
      refine ct_iald (k := k) (v := hs k) hx hb hK hP 2 1 rfl rfl (vp_in_nI (by omega) (by decide)) (nI_clamp (by omega)) (rfl) dN_second_15 ?_
      refine lv_aload_n hx hb dN_second_16 rfl (lv_at hl 1 rfl) ?_
      refine va_get (D := (dC, dI)) (ci := 3) (v := .int u.2.2.1) (C := "MashEnzymesModel") (T := F_N) (N := 14) hx hb hts in_N hown hK hP 0 rfl rfl 6 (by decide) (hts _ tw_f_N_71) (fun _ h9 => h9) rfl dN_second_17 ?_
      refine lv_icmp_gt (tgt := 29) hx hb dN_second_20 (by decide) (fun c_10 => ?_) (fun c_10 => ?_)
      · have hkK : k = (fst hs u.2.2.1 c0 0) := by unfold fstN at hm; rw [if_neg (fun h => absurd h.2 (Int32.not_le.mpr c_10))] at hm; exact hm
        have hkc : (fst hs u.2.2.1 c0 0) < c0 := by omega
        have hkc2 : k < c0 := by omega
        refine lv_iload_n hx hb dN_second_29 rfl (lv_at hl 0 rfl) ?_
        refine lv_aload_n hx hb dN_second_30 rfl (lv_at hl 1 rfl) ?_
        refine va_get (D := (dC, dI)) (ci := 3) (v := .int (nI c0)) (C := "MashEnzymesModel") (T := F_N) (N := 14) hx hb hts in_N hown hK hP 0 rfl rfl 7 (by decide) (hts _ tw_f_N_75) (fun _ h9 => h9) rfl dN_second_31 ?_
        refine lv_icmp_ge (tgt := 70) hx hb dN_second_34 (by decide) (fun c_11 => ?_) (fun c_11 => ?_)
        · exact absurd ((nI_leI (a := c0) (b := k) (by omega) (by omega)).mp c_11) (by omega)
        · refine lv_aload_n hx hb dN_second_37 rfl (lv_at hl 1 rfl) ?_
          refine lv_aload_n hx hb dN_second_38 rfl (lv_at hl 1 rfl) ?_
          refine va_get (D := (dC, dI)) (ci := 3) (v := .double u.2.2.2) (C := "MashEnzymesModel") (T := F_N) (N := 14) hx hb hts in_N hown hK hP 0 rfl rfl 1 (by decide) (hts _ tw_f_N_62) (fun _ h9 => h9) rfl dN_second_39 ?_
          refine lv_aload_n hx hb dN_second_42 rfl (lv_at hl 1 rfl) ?_
          refine va_get (D := (dC, dI)) (ci := 3) (v := .ref (ad 3)) (C := "MashEnzymesModel") (T := F_N) (N := 14) hx hb hts in_N hown hK hP 0 rfl rfl 9 (by decide) (hts _ tw_f_N_17) (fun _ h9 => h9) rfl dN_second_43 ?_
          refine lv_iload_n hx hb dN_second_46 rfl (lv_at hl 0 rfl) ?_
          refine ct_dald (k := k) (v := ht (fst hs u.2.2.1 c0 0)) hx hb hK hP 3 2 rfl rfl (vp_in_nI (by omega) (by decide)) (nI_clamp (by omega)) (by rw [hkK]) dN_second_47 ?_
          refine lv_aload_n hx hb dN_second_48 rfl (lv_at hl 1 rfl) ?_
          refine va_get (D := (dC, dI)) (ci := 3) (v := .double u.2.2.2) (C := "MashEnzymesModel") (T := F_N) (N := 14) hx hb hts in_N hown hK hP 0 rfl rfl 1 (by decide) (hts _ tw_f_N_62) (fun _ h9 => h9) rfl dN_second_49 ?_
          refine lv_dsub hx hb dN_second_52 ((hok.1 hkc).1) ?_
          refine lv_aload_n hx hb dN_second_53 rfl (lv_at hl 1 rfl) ?_
          refine va_get (D := (dC, dI)) (ci := 3) (v := .ref (ad 2)) (C := "MashEnzymesModel") (T := F_N) (N := 14) hx hb hts in_N hown hK hP 0 rfl rfl 8 (by decide) (hts _ tw_f_N_13) (fun _ h9 => h9) rfl dN_second_54 ?_
          refine lv_iload_n hx hb dN_second_57 rfl (lv_at hl 0 rfl) ?_
          refine ct_iald (k := k) (v := hs (fst hs u.2.2.1 c0 0)) hx hb hK hP 2 1 rfl rfl (vp_in_nI (by omega) (by decide)) (nI_clamp (by omega)) (by rw [hkK]) dN_second_58 ?_
          refine lv_aload_n hx hb dN_second_59 rfl (lv_at hl 1 rfl) ?_
          refine va_get (D := (dC, dI)) (ci := 3) (v := .int u.2.2.1) (C := "MashEnzymesModel") (T := F_N) (N := 14) hx hb hts in_N hown hK hP 0 rfl rfl 6 (by decide) (hts _ tw_f_N_71) (fun _ h9 => h9) rfl dN_second_60 ?_
          refine lv_isub hx hb dN_second_63 ?_
          refine lv_i2d hx hb dN_second_64 ?_
          refine lv_ddiv hx hb dN_second_65 ((hok.1 hkc).2.1) ?_
          refine lv_dadd hx hb dN_second_66 ((hok.1 hkc).2.2) ?_
          refine ct_topd (y := snT hs ht c0 u) (by unfold snT heatT; rw [if_pos hkc]) ?_
          refine va_put (D := (dC, dI)) (ci := 3) (v := .double (snT hs ht c0 u)) (ty := .double) (C := "MashEnzymesModel") (T := F_N) (N := 14) hx hb hts in_N t_N t_N_ok n_N hown hK hP hD hS 0 rfl rfl 1 (by decide) (hts _ tw_f_N_62) (fun _ h9 => h9) rfl (by decide +kernel) rfl rfl (Nat.le_of_ble_eq_true rfl) dN_second_67 (fun H locs hP hD hS => ?_)
          have hP : va_P (dC, dI) cls (wN ad cA u.1 (snT hs ht c0 u) Ac gt lt ts u.2.2.1 (nI c0) hs ht dc pa ib u.2.1) H := hP
          have hD : va_D A (wN ad cA u.1 (snT hs ht c0 u) Ac gt lt ts u.2.2.1 (nI c0) hs ht dc pa ib u.2.1) := hD
          exact key70 ls _ _ hP hD hS (lv_sub hl [1] rfl)
      · have hle : hs k ≤ u.2.2.1 := Int32.not_lt.mp c_10
        have hkc : k < c0 := by omega
        unfold fstN at hm
        rw [if_pos ⟨hkc, hle⟩] at hm
        refine lv_iinc (v := (nI (k + 1))) (lv' := [(1, .int (nI (k + 1))), (0, .ref (ad 0))]) hx hb dN_second_23 hl (k := 0) rfl (nI_1 k) (by decide) rfl (fun ls hl => ?_)
        refine lv_goto (tgt := 2) hx hb dN_second_26 (by decide) ?_
        exact ih (k + 1) ls _ _ (by omega) hm hP hD hS (lv_sub hl [0, 1] rfl)
set_option maxHeartbeats 4000000 in
set_option maxRecDepth 100000 in
/-- a second -/
theorem cN_second (l : Launch) (dC : Nat → ClassId) (dI : Nat → Nat → Nat) (tt : Nat → Nat) (sz : Nat) (ad : Nat → Nat) (cA : Nat → ClassId) (Ac : UInt64) (gt lt : Int32) (ts : UInt64) (c0 : Nat) (hs : Nat → Int32) (ht : Nat → UInt64) (dc : Int32) (pa : Nat → UInt64) (ib : Nat → Int32) (u : SN) (hc32 : c0 ≤ 32) (hAc : ft_P Ac) (hok : okN hs ht c0 Ac u) : Ct l dC dI tt yN_second bN_second 15 none ({ frames := 1, cells := 0, slots := 0, locals := 28 }) (tN cA) [.ref (ad 0)] (wN ad cA u.1 u.2.2.2 Ac gt lt ts u.2.2.1 (nI c0) hs ht dc pa ib u.2.1) sz (fun A => ctQv dC dI (tN cA) (wR ad cA Ac gt lt ts c0 hs ht dc pa ib (secN hs ht c0 Ac u)) A) := by
  refine ct_of (by decide) (Nat.le_of_ble_eq_true rfl) ?_
  intro p e s m below meth c A ls hx hb hr hts hown hml hlocks hnm hA hS hP hK hD hT hl
  have hl : lv_has ls 15 [(0, .ref (ad 0))] := hl
  have keyK := kN_keyK (l := l) (e := e) (below := below) (gt := gt) (lt := lt) (ts := ts) (dc := dc) (pa := pa) (ib := ib) hc32 hAc hok ⟨hx, hb, hr, hts, hown, hml, hlocks, hA, hK, hT⟩
  refine lv_iconst (v := 0) hx hb dN_second_0 (by decide) ?_
  refine ct_topi (y := nI 0) (rfl) ?_
  refine lv_istore_n (lv' := [(1, .int (nI 0)), (0, .ref (ad 0))]) hx hb dN_second_1 rfl hl (by decide) rfl (fun ls hl => ?_)
  exact keyK c0 0 ls _ _ rfl rfl hP hD hS (lv_sub hl [0, 1] rfl)
end
section
set_option maxHeartbeats 4000000 in
set_option maxRecDepth 100000 in
/-- run -/
theorem cN_run (l : Launch) (dC : Nat → ClassId) (dI : Nat → Nat → Nat) (tt : Nat → Nat) (sz : Nat) (ad : Nat → Nat) (cA : Nat → ClassId) (Ac : UInt64) (gt lt : Int32) (ts : UInt64) (c0 : Nat) (hs : Nat → Int32) (ht : Nat → UInt64) (dc : Int32) (pa : Nat → UInt64) (ib : Nat → Int32) (u : SN) (sec : Int32) (hc32 : c0 ≤ 32) (hAc : ft_P Ac) (hok : rnOK gt lt sec u.2.2.1 → ∀ i, i < sec.toNatClampNeg → okN hs ht c0 Ac (itN hs ht c0 Ac i u)) : Ct l dC dI tt yN_run bN_run 3 (some .int) ({ frames := 2, cells := 0, slots := 0, locals := 62 }) (tN cA) [.ref (ad 0), .int sec] (wN ad cA u.1 u.2.2.2 Ac gt lt ts u.2.2.1 (nI c0) hs ht dc pa ib u.2.1) sz (fun A => ctQc dC dI (tN cA) (rnOK gt lt sec u.2.2.1) (itN hs ht c0 Ac sec.toNatClampNeg u).2.2.1 (wR ad cA Ac gt lt ts c0 hs ht dc pa ib (itN hs ht c0 Ac sec.toNatClampNeg u)) (-1) (wR ad cA Ac gt lt ts c0 hs ht dc pa ib u) A) := by
  refine ct_of (by decide) (Nat.le_of_ble_eq_true rfl) ?_
  intro p e s m below meth c A ls hx hb hr hts hown hml hlocks hnm hA hS hP hK hD hT hl
  have hl : lv_has ls 3 [(0, .ref (ad 0)), (1, .int sec)] := hl
  refine lv_aload_n hx hb dN_run_0 rfl (lv_at hl 0 rfl) ?_
  refine ct_cvc (As := []) (rest := []) (wr := []) (w1 := (wN ad cA u.1 u.2.2.2 Ac gt lt ts u.2.2.1 (nI c0) hs ht dc pa ib u.2.1)) (w0 := (wN ad cA u.1 u.2.2.2 Ac gt lt ts u.2.2.1 (nI c0) hs ht dc pa ib u.2.1)) ⟨hx, hb, hml, hown, hts⟩ (cN_isEmpty l dC dI tt _ ad cA u.1 u.2.2.2 Ac gt lt ts u.2.2.1 (nI c0) hs ht dc pa ib u.2.1) (gT_V tw_m_N_101 tw_i_yN_isEmpty tw_s_yN_isEmpty tw_I_N tw_c_yN_isEmpty) ⟨rfl, by decide +kernel, by decide +kernel, (by decide +kernel : (parseMethodDescriptor yN_isEmpty.desc).map (fun d => d.parameters.length) = some 0)⟩ ⟨by decide, by decide⟩ (ci := 3) rfl rfl rfl hP hD hK hS hA hT [0, 1, 2, 3, 4, 5, 6] [] [0, 1, 2, 3, 4, 5] (by decide) rfl rfl (by decide) (by decide) rfl hl.1 rfl (Nat.le_of_ble_eq_true rfl) dN_run_1 ⟨by decide, by decide⟩ (fun c_1 H locs hP hD hS => ?_) (fun c_1 H locs hP hD hS => ?_)
  · have hP : va_P (dC, dI) cls (wN ad cA u.1 u.2.2.2 Ac gt lt ts u.2.2.1 (nI c0) hs ht dc pa ib u.2.1) H := hP
    have hD : va_D A (wN ad cA u.1 u.2.2.2 Ac gt lt ts u.2.2.1 (nI c0) hs ht dc pa ib u.2.1) := hD
    refine lv_if_ne (tgt := 28) hx hb dN_run_4 (by decide) (fun c_2 => ?_) (fun c_2 => ?_)
    · refine lv_iconst (v := (-1)) hx hb dN_run_28 (by decide) ?_
      exact ct_ret0 hx hb hr rfl hlocks hP hK hD hS (fun h => h.1 c_1) rfl dN_run_29
    · exact (absurd c_2 (by decide))
  · have hP : va_P (dC, dI) cls (wN ad cA u.1 u.2.2.2 Ac gt lt ts u.2.2.1 (nI c0) hs ht dc pa ib u.2.1) H := hP
    have hD : va_D A (wN ad cA u.1 u.2.2.2 Ac gt lt ts u.2.2.1 (nI c0) hs ht dc pa ib u.2.1) := hD
    refine lv_if_ne (tgt := 28) hx hb dN_run_4 (by decide) (fun c_3 => ?_) (fun c_3 => ?_)
    · exact absurd rfl c_3
    · refine lv_iload_n hx hb dN_run_7 rfl (lv_at hl 1 rfl) ?_
      refine lv_if_lt (tgt := 28) hx hb dN_run_8 (by decide) (fun c_4 => ?_) (fun c_4 => ?_)
      · refine lv_iconst (v := (-1)) hx hb dN_run_28 (by decide) ?_
        exact ct_ret0 hx hb hr rfl hlocks hP hK hD hS (fun h => Int32.not_lt.mpr h.2.1 c_4) rfl dN_run_29
      · refine lv_iload_n hx hb dN_run_11 rfl (lv_at hl 1 rfl) ?_
        refine lv_ldc hx hb hown (hts _ tw_k_N_105) dN_run_12 ?_
        refine lv_icmp_gt (tgt := 28) hx hb dN_run_14 (by decide) (fun c_5 => ?_) (fun c_5 => ?_)
        · refine lv_iconst (v := (-1)) hx hb dN_run_28 (by decide) ?_
          exact ct_ret0 hx hb hr rfl hlocks hP hK hD hS (fun h => Int32.not_lt.mpr h.2.2.1 c_5) rfl dN_run_29
        · refine lv_iload_n hx hb dN_run_17 rfl (lv_at hl 1 rfl) ?_
          refine lv_ldc hx hb hown (hts _ tw_k_N_78) dN_run_18 ?_
          refine lv_aload_n hx hb dN_run_20 rfl (lv_at hl 0 rfl) ?_
          refine va_get (D := (dC, dI)) (ci := 3) (v := .int u.2.2.1) (C := "MashEnzymesModel") (T := F_N) (N := 14) hx hb hts in_N hown hK hP 0 rfl rfl 6 (by decide) (hts _ tw_f_N_71) (fun _ h9 => h9) rfl dN_run_21 ?_
          refine lv_isub hx hb dN_run_24 ?_
          refine lv_icmp_le (tgt := 30) hx hb dN_run_25 (by decide) (fun c_6 => ?_) (fun c_6 => ?_)
          · have hrn : rnOK gt lt sec u.2.2.1 := ⟨c_1, Int32.not_lt.mp c_4, Int32.not_lt.mp c_5, c_6⟩
            obtain ⟨N, hN, rfl⟩ := nI_of (x := sec) c_4
            have hNc : (nI N).toNatClampNeg = N := nI_clamp hN
            rw [hNc] at hok
            rw [hNc]
            have key : ∀ (n i : Nat) (ls : Array Slot) (H : Heap) (locs : List Loc), n + i = N → va_P (dC, dI) cls (wR ad cA Ac gt lt ts c0 hs ht dc pa ib (itN hs ht c0 Ac i u)) H → va_D A (wR ad cA Ac gt lt ts c0 hs ht dc pa ib (itN hs ht c0 Ac i u)) → va_S A s.heap H locs → lv_has ls 3 [(2, .int (nI i)), (1, .int (nI N)), (0, .ref (ad 0))] → W p l e ({ frames := 2, cells := 0, slots := 0, locals := 62 } : Room) s m ([.ref (ad 0), .int (nI N)] : List Value).toArray below meth c H locs 0 0 (MQ below (ctQc dC dI (tN cA) (rnOK gt lt (nI N) u.2.2.1) (itN hs ht c0 Ac N u).2.2.1 (wR ad cA Ac gt lt ts c0 hs ht dc pa ib (itN hs ht c0 Ac N u)) (-1) (wR ad cA Ac gt lt ts c0 hs ht dc pa ib u) A) ([.ref (ad 0), .int (nI N)] : List Value).toArray s 0 0 A) (F0 m 32 ls []) := by
              intro n
              induction n with
              | zero =>
                intro i ls H locs hni hP hD hS hl
                refine lv_iload_n hx hb dN_run_32 rfl (lv_at hl 0 rfl) ?_
                refine lv_iload_n hx hb dN_run_33 rfl (lv_at hl 1 rfl) ?_
                refine lv_icmp_ge (tgt := 47) hx hb dN_run_34 (by decide) (fun c_7 => ?_) (fun c_7 => ?_)
                · have hi : i = N := by omega
                  subst hi
                  refine lv_aload_n hx hb dN_run_47 rfl (lv_at hl 2 rfl) ?_
                  refine va_get (D := (dC, dI)) (ci := 3) (v := .int ((itN hs ht c0 Ac i u).2.2.1)) (C := "MashEnzymesModel") (T := F_N) (N := 14) hx hb hts in_N hown hK hP 0 rfl rfl 6 (by decide) (hts _ tw_f_N_71) (fun _ h9 => h9) rfl dN_run_48 ?_
                  exact ct_ret1 hx hb hr rfl hlocks hP hK hD hS hrn rfl dN_run_51
                · exact absurd (nI_le (a := N) (b := i) (by omega) (by omega)) c_7
              | succ n ih =>
                intro i ls H locs hni hP hD hS hl
                refine lv_iload_n hx hb dN_run_32 rfl (lv_at hl 0 rfl) ?_
                refine lv_iload_n hx hb dN_run_33 rfl (lv_at hl 1 rfl) ?_
                refine lv_icmp_ge (tgt := 47) hx hb dN_run_34 (by decide) (fun c_8 => ?_) (fun c_8 => ?_)
                · exact absurd ((nI_leI (a := N) (b := i) (by omega) (by omega)).mp c_8) (by omega)
                · refine lv_aload_n hx hb dN_run_37 rfl (lv_at hl 2 rfl) ?_
                  refine ct_cvv (As := []) (rest := []) (wr := []) (w1 := (wN ad cA ((itN hs ht c0 Ac (i + 1) u).1) ((itN hs ht c0 Ac (i + 1) u).2.2.2) Ac gt lt ts ((itN hs ht c0 Ac (i + 1) u).2.2.1) (nI c0) hs ht dc pa ib ((itN hs ht c0 Ac (i + 1) u).2.1))) ⟨hx, hb, hml, hown, hts⟩ (cN_second l dC dI tt _ ad cA Ac gt lt ts c0 hs ht dc pa ib (itN hs ht c0 Ac i u) hc32 hAc (hok hrn i (by omega))) (gT_V tw_m_N_106 tw_i_yN_second tw_s_yN_second tw_I_N tw_c_yN_second) ⟨rfl, by decide +kernel, by decide +kernel, (by decide +kernel : (parseMethodDescriptor yN_second.desc).map (fun d => d.parameters.length) = some 0)⟩ ⟨by decide, by decide⟩ (ci := 3) rfl rfl rfl hP hD hK hS hA hT [0, 1, 2, 3, 4, 5, 6] [] [0, 1, 2, 3, 4, 5] (by decide) rfl rfl (by decide) (by decide) rfl hl.1 rfl (Nat.le_of_ble_eq_true rfl) dN_run_38 ⟨by decide, by decide⟩ (fun H locs hP hD hS => ?_)
                  have hP : va_P (dC, dI) cls (wN ad cA ((itN hs ht c0 Ac (i + 1) u).1) ((itN hs ht c0 Ac (i + 1) u).2.2.2) Ac gt lt ts ((itN hs ht c0 Ac (i + 1) u).2.2.1) (nI c0) hs ht dc pa ib ((itN hs ht c0 Ac (i + 1) u).2.1)) H := hP
                  have hD : va_D A (wN ad cA ((itN hs ht c0 Ac (i + 1) u).1) ((itN hs ht c0 Ac (i + 1) u).2.2.2) Ac gt lt ts ((itN hs ht c0 Ac (i + 1) u).2.2.1) (nI c0) hs ht dc pa ib ((itN hs ht c0 Ac (i + 1) u).2.1)) := hD
                  refine lv_iinc (v := (nI (i + 1))) (lv' := [(2, .int (nI (i + 1))), (1, .int (nI N)), (0, .ref (ad 0))]) hx hb dN_run_41 hl (k := 0) rfl (nI_1 i) (by decide) rfl (fun ls hl => ?_)
                  refine lv_goto (tgt := 32) hx hb dN_run_44 (by decide) ?_
                  exact ih (i + 1) ls H locs (by omega) hP hD hS (lv_sub hl [0, 1, 2] rfl)
            refine lv_iconst (v := 0) hx hb dN_run_30 (by decide) ?_
            refine ct_topi (y := nI 0) (rfl) ?_
            refine lv_istore_n (lv' := [(2, .int (nI 0)), (0, .ref (ad 0)), (1, .int (nI N))]) hx hb dN_run_31 rfl hl (by decide) rfl (fun ls hl => ?_)
            exact key N 0 ls _ _ rfl hP hD hS (lv_sub hl [0, 2, 1] rfl)
          · refine lv_iconst (v := (-1)) hx hb dN_run_28 (by decide) ?_
            exact ct_ret0 hx hb hr rfl hlocks hP hK hD hS (fun h => c_6 h.2.2.2) rfl dN_run_29

set_option maxHeartbeats 4000000 in
set_option maxRecDepth 100000 in
/-- sugar -/
theorem cN_sugar (l : Launch) (dC : Nat → ClassId) (dI : Nat → Nat → Nat) (tt : Nat → Nat) (sz : Nat) (ad : Nat → Nat) (cA : Nat → ClassId) (a : Nat → UInt64) (Tm Ac : UInt64) (gt lt : Int32) (ts : UInt64) (nw st : Int32) (hs : Nat → Int32) (ht : Nat → UInt64) (dc : Int32) (pa : Nat → UInt64) (ib : Nat → Int32) (ac : Nat → UInt64) (kind : Int32) : Ct l dC dI tt yN_sugar bN_sugar 2 (some .double) ({ frames := 0, cells := 0, slots := 0, locals := 0 }) (tN cA) [.ref (ad 0), .int kind] (wN ad cA a Tm Ac gt lt ts nw st hs ht dc pa ib ac) sz (fun A => ctQd dC dI (tN cA) (kdV a 3 5 kind) (wN ad cA a Tm Ac gt lt ts nw st hs ht dc pa ib ac) A) := by
  refine ct_of (by decide) (Nat.le_of_ble_eq_true rfl) ?_
  intro p e s m below meth c A ls hx hb hr hts hown hml hlocks hnm hA hS hP hK hD hT hl
  have hl : lv_has ls 2 [(0, .ref (ad 0)), (1, .int kind)] := hl
  refine lv_iload_n hx hb dN_sugar_0 rfl (lv_at hl 1 rfl) ?_
  refine lv_if_lt (tgt := 9) hx hb dN_sugar_1 (by decide) (fun c_1 => ?_) (fun c_1 => ?_)
  · refine lv_ldc2d hx hb hown (hts _ tw_d_N_109) dN_sugar_9 ?_
    refine lv_goto (tgt := 23) hx hb dN_sugar_12 (by decide) ?_
    exact ct_dret hx hb hr hlocks hP hK hD hS (by unfold kdV; rw [if_neg (fun h => Int32.not_lt.mpr h.1 c_1)]) dN_sugar_23
  · obtain ⟨k, hk, rfl⟩ := nI_of (x := kind) c_1
    refine lv_iload_n hx hb dN_sugar_4 rfl (lv_at hl 1 rfl) ?_
    refine lv_iconst (v := 4) hx hb dN_sugar_5 (by decide) ?_
    refine lv_icmp_le (tgt := 15) hx hb dN_sugar_6 (by decide) (fun c_2 => ?_) (fun c_2 => ?_)
    · have hk5 : k < 5 := by have := (nI_leI (a := k) (b := 4) hk (by decide)).mp c_2; omega
      refine lv_aload_n hx hb dN_sugar_15 rfl (lv_at hl 0 rfl) ?_
      refine va_get (D := (dC, dI)) (ci := 3) (v := .ref (ad 1)) (C := "MashEnzymesModel") (T := F_N) (N := 14) hx hb hts in_N hown hK hP 0 rfl rfl 0 (by decide) (hts _ tw_f_N_9) (fun _ h9 => h9) rfl dN_sugar_16 ?_
      refine lv_iconst (v := 3) hx hb dN_sugar_19 (by decide) ?_
      refine lv_iload_n hx hb dN_sugar_20 rfl (lv_at hl 1 rfl) ?_
      refine lv_iadd hx hb dN_sugar_21 ?_
      refine ct_topi (y := nI (3 + k)) (by rw [show (3 : Int32) = nI 3 from rfl, nI_add]) ?_
      refine ct_dald (k := (3 + k)) (v := a (3 + k)) hx hb hK hP 1 0 rfl rfl (vp_in_nI (by omega) (by decide)) (nI_clamp (by omega)) (rfl) dN_sugar_22 ?_
      exact ct_dret hx hb hr hlocks hP hK hD hS (by unfold kdV; rw [if_pos ⟨nI_pos' hk, nI_lt hk5 (by decide)⟩, nI_clamp hk]) dN_sugar_23
    · refine lv_ldc2d hx hb hown (hts _ tw_d_N_109) dN_sugar_9 ?_
      refine lv_goto (tgt := 23) hx hb dN_sugar_12 (by decide) ?_
      exact ct_dret hx hb hr hlocks hP hK hD hS (by unfold kdV; rw [if_neg (fun h => c_2 (nI_le (a := k) (b := 4) (by have := (nI_ltI (a := k) (b := 5) hk (by decide)).mp h.2; omega) (by decide)))]) dN_sugar_23

set_option maxHeartbeats 4000000 in
set_option maxRecDepth 100000 in
/-- enzymeLeft -/
theorem cN_enzymeLeft (l : Launch) (dC : Nat → ClassId) (dI : Nat → Nat → Nat) (tt : Nat → Nat) (sz : Nat) (ad : Nat → Nat) (cA : Nat → ClassId) (a : Nat → UInt64) (Tm Ac : UInt64) (gt lt : Int32) (ts : UInt64) (nw st : Int32) (hs : Nat → Int32) (ht : Nat → UInt64) (dc : Int32) (pa : Nat → UInt64) (ib : Nat → Int32) (ac : Nat → UInt64) (kind : Int32) : Ct l dC dI tt yN_enzymeLeft bN_enzymeLeft 2 (some .double) ({ frames := 0, cells := 0, slots := 0, locals := 0 }) (tN cA) [.ref (ad 0), .int kind] (wN ad cA a Tm Ac gt lt ts nw st hs ht dc pa ib ac) sz (fun A => ctQd dC dI (tN cA) (kdV a 9 4 kind) (wN ad cA a Tm Ac gt lt ts nw st hs ht dc pa ib ac) A) := by
  refine ct_of (by decide) (Nat.le_of_ble_eq_true rfl) ?_
  intro p e s m below meth c A ls hx hb hr hts hown hml hlocks hnm hA hS hP hK hD hT hl
  have hl : lv_has ls 2 [(0, .ref (ad 0)), (1, .int kind)] := hl
  refine lv_iload_n hx hb dN_enzymeLeft_0 rfl (lv_at hl 1 rfl) ?_
  refine lv_if_lt (tgt := 9) hx hb dN_enzymeLeft_1 (by decide) (fun c_1 => ?_) (fun c_1 => ?_)
  · refine lv_ldc2d hx hb hown (hts _ tw_d_N_109) dN_enzymeLeft_9 ?_
    refine lv_goto (tgt := 24) hx hb dN_enzymeLeft_12 (by decide) ?_
    exact ct_dret hx hb hr hlocks hP hK hD hS (by unfold kdV; rw [if_neg (fun h => Int32.not_lt.mpr h.1 c_1)]) dN_enzymeLeft_24
  · obtain ⟨k, hk, rfl⟩ := nI_of (x := kind) c_1
    refine lv_iload_n hx hb dN_enzymeLeft_4 rfl (lv_at hl 1 rfl) ?_
    refine lv_iconst (v := 3) hx hb dN_enzymeLeft_5 (by decide) ?_
    refine lv_icmp_le (tgt := 15) hx hb dN_enzymeLeft_6 (by decide) (fun c_2 => ?_) (fun c_2 => ?_)
    · have hk5 : k < 4 := by have := (nI_leI (a := k) (b := 3) hk (by decide)).mp c_2; omega
      refine lv_aload_n hx hb dN_enzymeLeft_15 rfl (lv_at hl 0 rfl) ?_
      refine va_get (D := (dC, dI)) (ci := 3) (v := .ref (ad 1)) (C := "MashEnzymesModel") (T := F_N) (N := 14) hx hb hts in_N hown hK hP 0 rfl rfl 0 (by decide) (hts _ tw_f_N_9) (fun _ h9 => h9) rfl dN_enzymeLeft_16 ?_
      refine lv_bipush (v := 9) hx hb dN_enzymeLeft_19 (by decide) ?_
      refine lv_iload_n hx hb dN_enzymeLeft_21 rfl (lv_at hl 1 rfl) ?_
      refine lv_iadd hx hb dN_enzymeLeft_22 ?_
      refine ct_topi (y := nI (9 + k)) (by rw [show (9 : Int32) = nI 9 from rfl, nI_add]) ?_
      refine ct_dald (k := (9 + k)) (v := a (9 + k)) hx hb hK hP 1 0 rfl rfl (vp_in_nI (by omega) (by decide)) (nI_clamp (by omega)) (rfl) dN_enzymeLeft_23 ?_
      exact ct_dret hx hb hr hlocks hP hK hD hS (by unfold kdV; rw [if_pos ⟨nI_pos' hk, nI_lt hk5 (by decide)⟩, nI_clamp hk]) dN_enzymeLeft_24
    · refine lv_ldc2d hx hb hown (hts _ tw_d_N_109) dN_enzymeLeft_9 ?_
      refine lv_goto (tgt := 24) hx hb dN_enzymeLeft_12 (by decide) ?_
      exact ct_dret hx hb hr hlocks hP hK hD hS (by unfold kdV; rw [if_neg (fun h => c_2 (nI_le (a := k) (b := 3) (by have := (nI_ltI (a := k) (b := 4) hk (by decide)).mp h.2; omega) (by decide)))]) dN_enzymeLeft_24

set_option maxHeartbeats 4000000 in
set_option maxRecDepth 100000 in
/-- starch -/
theorem cN_starch (l : Launch) (dC : Nat → ClassId) (dI : Nat → Nat → Nat) (tt : Nat → Nat) (sz : Nat) (ad : Nat → Nat) (cA : Nat → ClassId) (a : Nat → UInt64) (Tm Ac : UInt64) (gt lt : Int32) (ts : UInt64) (nw st : Int32) (hs : Nat → Int32) (ht : Nat → UInt64) (dc : Int32) (pa : Nat → UInt64) (ib : Nat → Int32) (ac : Nat → UInt64) (hok : vf_n64 (FP.dadd (a 1) (a 2))) : Ct l dC dI tt yN_starch bN_starch 1 (some .double) ({ frames := 0, cells := 0, slots := 0, locals := 0 }) (tN cA) [.ref (ad 0)] (wN ad cA a Tm Ac gt lt ts nw st hs ht dc pa ib ac) sz (fun A => ctQd dC dI (tN cA) (FP.dadd (a 1) (a 2)) (wN ad cA a Tm Ac gt lt ts nw st hs ht dc pa ib ac) A) := by
  refine ct_of (by decide) (Nat.le_of_ble_eq_true rfl) ?_
  intro p e s m below meth c A ls hx hb hr hts hown hml hlocks hnm hA hS hP hK hD hT hl
  have hl : lv_has ls 1 [(0, .ref (ad 0))] := hl
  refine lv_aload_n hx hb dN_starch_0 rfl (lv_at hl 0 rfl) ?_
  refine va_get (D := (dC, dI)) (ci := 3) (v := .ref (ad 1)) (C := "MashEnzymesModel") (T := F_N) (N := 14) hx hb hts in_N hown hK hP 0 rfl rfl 0 (by decide) (hts _ tw_f_N_9) (fun _ h9 => h9) rfl dN_starch_1 ?_
  refine lv_iconst (v := 1) hx hb dN_starch_4 (by decide) ?_
  refine ct_dald (k := 1) (v := a 1) hx hb hK hP 1 0 rfl rfl (by unfold vp_in; decide) (rfl) (rfl) dN_starch_5 ?_
  refine lv_aload_n hx hb dN_starch_6 rfl (lv_at hl 0 rfl) ?_
  refine va_get (D := (dC, dI)) (ci := 3) (v := .ref (ad 1)) (C := "MashEnzymesModel") (T := F_N) (N := 14) hx hb hts in_N hown hK hP 0 rfl rfl 0 (by decide) (hts _ tw_f_N_9) (fun _ h9 => h9) rfl dN_starch_7 ?_
  refine lv_iconst (v := 2) hx hb dN_starch_10 (by decide) ?_
  refine ct_dald (k := 2) (v := a 2) hx hb hK hP 1 0 rfl rfl (by unfold vp_in; decide) (rfl) (rfl) dN_starch_11 ?_
  refine lv_dadd hx hb dN_starch_12 (hok) ?_
  exact ct_dret hx hb hr hlocks hP hK hD hS (rfl) dN_starch_13

set_option maxHeartbeats 4000000 in
set_option maxRecDepth 100000 in
/-- degrees -/
theorem cN_degrees (l : Launch) (dC : Nat → ClassId) (dI : Nat → Nat → Nat) (tt : Nat → Nat) (sz : Nat) (ad : Nat → Nat) (cA : Nat → ClassId) (a : Nat → UInt64) (Tm Ac : UInt64) (gt lt : Int32) (ts : UInt64) (nw st : Int32) (hs : Nat → Int32) (ht : Nat → UInt64) (dc : Int32) (pa : Nat → UInt64) (ib : Nat → Int32) (ac : Nat → UInt64) : Ct l dC dI tt yN_degrees bN_degrees 1 (some .double) ({ frames := 0, cells := 0, slots := 0, locals := 0 }) (tN cA) [.ref (ad 0)] (wN ad cA a Tm Ac gt lt ts nw st hs ht dc pa ib ac) sz (fun A => ctQd dC dI (tN cA) Tm (wN ad cA a Tm Ac gt lt ts nw st hs ht dc pa ib ac) A) := by
  refine ct_of (by decide) (Nat.le_of_ble_eq_true rfl) ?_
  intro p e s m below meth c A ls hx hb hr hts hown hml hlocks hnm hA hS hP hK hD hT hl
  have hl : lv_has ls 1 [(0, .ref (ad 0))] := hl
  refine lv_aload_n hx hb dN_degrees_0 rfl (lv_at hl 0 rfl) ?_
  refine va_get (D := (dC, dI)) (ci := 3) (v := .double Tm) (C := "MashEnzymesModel") (T := F_N) (N := 14) hx hb hts in_N hown hK hP 0 rfl rfl 1 (by decide) (hts _ tw_f_N_62) (fun _ h9 => h9) rfl dN_degrees_1 ?_
  exact ct_dret hx hb hr hlocks hP hK hD hS (rfl) dN_degrees_4

set_option maxHeartbeats 4000000 in
set_option maxRecDepth 100000 in
/-- water -/
theorem cN_water (l : Launch) (dC : Nat → ClassId) (dI : Nat → Nat → Nat) (tt : Nat → Nat) (sz : Nat) (ad : Nat → Nat) (cA : Nat → ClassId) (a : Nat → UInt64) (Tm Ac : UInt64) (gt lt : Int32) (ts : UInt64) (nw st : Int32) (hs : Nat → Int32) (ht : Nat → UInt64) (dc : Int32) (pa : Nat → UInt64) (ib : Nat → Int32) (ac : Nat → UInt64) : Ct l dC dI tt yN_water bN_water 1 (some .double) ({ frames := 0, cells := 0, slots := 0, locals := 0 }) (tN cA) [.ref (ad 0)] (wN ad cA a Tm Ac gt lt ts nw st hs ht dc pa ib ac) sz (fun A => ctQd dC dI (tN cA) (a 0) (wN ad cA a Tm Ac gt lt ts nw st hs ht dc pa ib ac) A) := by
  refine ct_of (by decide) (Nat.le_of_ble_eq_true rfl) ?_
  intro p e s m below meth c A ls hx hb hr hts hown hml hlocks hnm hA hS hP hK hD hT hl
  have hl : lv_has ls 1 [(0, .ref (ad 0))] := hl
  refine lv_aload_n hx hb dN_water_0 rfl (lv_at hl 0 rfl) ?_
  refine va_get (D := (dC, dI)) (ci := 3) (v := .ref (ad 1)) (C := "MashEnzymesModel") (T := F_N) (N := 14) hx hb hts in_N hown hK hP 0 rfl rfl 0 (by decide) (hts _ tw_f_N_9) (fun _ h9 => h9) rfl dN_water_1 ?_
  refine lv_iconst (v := 0) hx hb dN_water_4 (by decide) ?_
  refine ct_dald (k := 0) (v := a 0) hx hb hK hP 1 0 rfl rfl (by unfold vp_in; decide) (rfl) (rfl) dN_water_5 ?_
  exact ct_dret hx hb hr hlocks hP hK hD hS (rfl) dN_water_6

set_option maxHeartbeats 4000000 in
set_option maxRecDepth 100000 in
/-- converted -/
theorem cN_converted (l : Launch) (dC : Nat → ClassId) (dI : Nat → Nat → Nat) (tt : Nat → Nat) (sz : Nat) (ad : Nat → Nat) (cA : Nat → ClassId) (a : Nat → UInt64) (Tm Ac : UInt64) (gt lt : Int32) (ts : UInt64) (nw st : Int32) (hs : Nat → Int32) (ht : Nat → UInt64) (dc : Int32) (pa : Nat → UInt64) (ib : Nat → Int32) (ac : Nat → UInt64) (hok : vf_n64 (FP.dadd (a 1) (a 2)) ∧ vf_n64 (FP.dmul 4638707616191610880 (FP.dadd (a 1) (a 2))) ∧ FP.dcmp (FP.dmul 4638707616191610880 (FP.dadd (a 1) (a 2))) ts ≠ none) : Ct l dC dI tt yN_converted bN_converted 1 (some .boolean) ({ frames := 1, cells := 0, slots := 0, locals := 20 }) (tN cA) [.ref (ad 0)] (wN ad cA a Tm Ac gt lt ts nw st hs ht dc pa ib ac) sz (fun A => ctQc dC dI (tN cA) (cvOK a ts gt lt) 1 (wN ad cA a Tm Ac gt lt ts nw st hs ht dc pa ib ac) 0 (wN ad cA a Tm Ac gt lt ts nw st hs ht dc pa ib ac) A) := by
  refine ct_of (by decide) (Nat.le_of_ble_eq_true rfl) ?_
  intro p e s m below meth c A ls hx hb hr hts hown hml hlocks hnm hA hS hP hK hD hT hl
  have hl : lv_has ls 1 [(0, .ref (ad 0))] := hl
  refine lv_aload_n hx hb dN_converted_0 rfl (lv_at hl 0 rfl) ?_
  refine ct_cvc (As := []) (rest := []) (wr := []) (w1 := (wN ad cA a Tm Ac gt lt ts nw st hs ht dc pa ib ac)) (w0 := (wN ad cA a Tm Ac gt lt ts nw st hs ht dc pa ib ac)) ⟨hx, hb, hml, hown, hts⟩ (cN_isEmpty l dC dI tt _ ad cA a Tm Ac gt lt ts nw st hs ht dc pa ib ac) (gT_V tw_m_N_101 tw_i_yN_isEmpty tw_s_yN_isEmpty tw_I_N tw_c_yN_isEmpty) ⟨rfl, by decide +kernel, by decide +kernel, (by decide +kernel : (parseMethodDescriptor yN_isEmpty.desc).map (fun d => d.parameters.length) = some 0)⟩ ⟨by decide, by decide⟩ (ci := 3) rfl rfl rfl hP hD hK hS hA hT [0, 1, 2, 3, 4, 5, 6] [] [0, 1, 2, 3, 4, 5] (by decide) rfl rfl (by decide) (by decide) rfl hl.1 rfl (Nat.le_of_ble_eq_true rfl) dN_converted_1 ⟨by decide, by decide⟩ (fun c_1 H locs hP hD hS => ?_) (fun c_1 H locs hP hD hS => ?_)
  · have hP : va_P (dC, dI) cls (wN ad cA a Tm Ac gt lt ts nw st hs ht dc pa ib ac) H := hP
    have hD : va_D A (wN ad cA a Tm Ac gt lt ts nw st hs ht dc pa ib ac) := hD
    refine lv_if_ne (tgt := 36) hx hb dN_converted_4 (by decide) (fun c_2 => ?_) (fun c_2 => ?_)
    · refine lv_iconst (v := 0) hx hb dN_converted_36 (by decide) ?_
      exact ct_ret0 hx hb hr rfl hlocks hP hK hD hS (fun h => h.1 c_1) rfl dN_converted_37
    · exact (absurd c_2 (by decide))
  · have hP : va_P (dC, dI) cls (wN ad cA a Tm Ac gt lt ts nw st hs ht dc pa ib ac) H := hP
    have hD : va_D A (wN ad cA a Tm Ac gt lt ts nw st hs ht dc pa ib ac) := hD
    refine lv_if_ne (tgt := 36) hx hb dN_converted_4 (by decide) (fun c_3 => ?_) (fun c_3 => ?_)
    · exact absurd rfl c_3
    · refine lv_ldc2d hx hb hown (hts _ tw_d_N_114) dN_converted_7 ?_
      refine lv_aload_n hx hb dN_converted_10 rfl (lv_at hl 0 rfl) ?_
      refine va_get (D := (dC, dI)) (ci := 3) (v := .ref (ad 1)) (C := "MashEnzymesModel") (T := F_N) (N := 14) hx hb hts in_N hown hK hP 0 rfl rfl 0 (by decide) (hts _ tw_f_N_9) (fun _ h9 => h9) rfl dN_converted_11 ?_
      refine lv_iconst (v := 1) hx hb dN_converted_14 (by decide) ?_
      refine ct_dald (k := 1) (v := a 1) hx hb hK hP 1 0 rfl rfl (by unfold vp_in; decide) (rfl) (rfl) dN_converted_15 ?_
      refine lv_aload_n hx hb dN_converted_16 rfl (lv_at hl 0 rfl) ?_
      refine va_get (D := (dC, dI)) (ci := 3) (v := .ref (ad 1)) (C := "MashEnzymesModel") (T := F_N) (N := 14) hx hb hts in_N hown hK hP 0 rfl rfl 0 (by decide) (hts _ tw_f_N_9) (fun _ h9 => h9) rfl dN_converted_17 ?_
      refine lv_iconst (v := 2) hx hb dN_converted_20 (by decide) ?_
      refine ct_dald (k := 2) (v := a 2) hx hb hK hP 1 0 rfl rfl (by unfold vp_in; decide) (rfl) (rfl) dN_converted_21 ?_
      refine lv_dadd hx hb dN_converted_22 (hok.1) ?_
      refine lv_dmul hx hb dN_converted_23 (hok.2.1) ?_
      refine lv_aload_n hx hb dN_converted_24 rfl (lv_at hl 0 rfl) ?_
      refine va_get (D := (dC, dI)) (ci := 3) (v := .double ts) (C := "MashEnzymesModel") (T := F_N) (N := 14) hx hb hts in_N hown hK hP 0 rfl rfl 5 (by decide) (hts _ tw_f_N_32) (fun _ h9 => h9) rfl dN_converted_25 ?_
      refine lv_dcmp hx hb dN_converted_28 ?_
      refine lv_if_gt (tgt := 36) hx hb dN_converted_29 (by decide) (fun c_4 => ?_) (fun c_4 => ?_)
      · refine lv_iconst (v := 0) hx hb dN_converted_36 (by decide) ?_
        exact ct_ret0 hx hb hr rfl hlocks hP hK hD hS (fun h => h.2 ((cvn_g hok.2.2).mp c_4)) rfl dN_converted_37
      · refine lv_iconst (v := 1) hx hb dN_converted_32 (by decide) ?_
        refine lv_goto (tgt := 37) hx hb dN_converted_33 (by decide) ?_
        exact ct_ret1 hx hb hr rfl hlocks hP hK hD hS ⟨c_1, fun h => c_4 ((cvn_g hok.2.2).mpr h)⟩ rfl dN_converted_37

theorem tpOK_iff {d : UInt64} (h0 : FP.dcmp d 0 ≠ none) (h1 : FP.dcmp d 4636737291354636288 ≠ none) : tpOK d ↔ ¬ FP.dcmp d 0 = some .lt ∧ ¬ FP.dcmp d 4636737291354636288 = some .gt := by
  unfold tpOK
  constructor
  · rintro ⟨h2, h3⟩
    constructor
    · intro h; rcases h2 with h2 | h2 <;> rw [h] at h2 <;> cases h2
    · intro h; rcases h3 with h3 | h3 <;> rw [h] at h3 <;> cases h3
  · rintro ⟨h2, h3⟩
    constructor
    · cases h : FP.dcmp d 0 with
      | none => exact absurd h h0
      | some o => cases o with
        | lt => exact absurd h h2
        | eq => exact Or.inr rfl
        | gt => exact Or.inl rfl
    · cases h : FP.dcmp d 4636737291354636288 with
      | none => exact absurd h h1
      | some o => cases o with
        | lt => exact Or.inl rfl
        | eq => exact Or.inr rfl
        | gt => exact absurd h h3
theorem lt4_3 {x : Int32} (h : x < 4) : x ≤ 3 := by
  rw [Int32.lt_iff_toInt_lt] at h
  rw [Int32.le_iff_toInt_le]
  exact Int.le_of_lt_add_one h
theorem lt3_4 {x : Int32} (h : x ≤ 3) : x < 4 := by
  rw [Int32.le_iff_toInt_le] at h
  rw [Int32.lt_iff_toInt_lt]
  exact Int.lt_add_one_of_le h
theorem lt3_2 {x : Int32} (h : x < 3) : x ≤ 2 := by
  rw [Int32.lt_iff_toInt_lt] at h
  rw [Int32.le_iff_toInt_le]
  exact Int.le_of_lt_add_one h
theorem lt2_3 {x : Int32} (h : x ≤ 2) : x < 3 := by
  rw [Int32.le_iff_toInt_le] at h
  rw [Int32.lt_iff_toInt_lt]
  exact Int.lt_add_one_of_le h
set_option maxHeartbeats 4000000 in
set_option maxRecDepth 100000 in
/-- enzyme -/
theorem cN_enzyme (l : Launch) (dC : Nat → ClassId) (dI : Nat → Nat → Nat) (tt : Nat → Nat) (sz : Nat) (ad : Nat → Nat) (cA : Nat → ClassId) (a : Nat → UInt64) (Tm Ac : UInt64) (gt lt : Int32) (ts : UInt64) (nw st : Int32) (hs : Nat → Int32) (ht : Nat → UInt64) (dc : Int32) (pa : Nat → UInt64) (ib : Nat → Int32) (ac : Nat → UInt64) (kind : Int32) (am : UInt64) (hok : ezOK kind am → vf_n64 (FP.dadd (a (9 + kind.toNatClampNeg)) am)) : Ct l dC dI tt yN_enzyme bN_enzyme 4 (some .boolean) ({ frames := 0, cells := 0, slots := 0, locals := 0 }) (tN cA) [.ref (ad 0), .int kind, .double am] (wN ad cA a Tm Ac gt lt ts nw st hs ht dc pa ib ac) sz (fun A => ctQc dC dI (tN cA) (ezOK kind am) 1 (wN ad cA (vf_upd a (9 + kind.toNatClampNeg) (FP.dadd (a (9 + kind.toNatClampNeg)) am)) Tm Ac gt lt ts nw st hs ht dc pa ib ac) 0 (wN ad cA a Tm Ac gt lt ts nw st hs ht dc pa ib ac) A) := by
  refine ct_of (by decide) (Nat.le_of_ble_eq_true rfl) ?_
  intro p e s m below meth c A ls hx hb hr hts hown hml hlocks hnm hA hS hP hK hD hT hl
  have hl : lv_has ls 4 [(0, .ref (ad 0)), (1, .int kind), (2, .double am)] := hl
  refine lv_iload_n hx hb dN_enzyme_0 rfl (lv_at hl 1 rfl) ?_
  refine lv_if_lt (tgt := 23) hx hb dN_enzyme_1 (by decide) (fun c_1 => ?_) (fun c_1 => ?_)
  · refine lv_iconst (v := 0) hx hb dN_enzyme_23 (by decide) ?_
    exact ct_ret0 hx hb hr rfl hlocks hP hK hD hS (fun h => Int32.not_lt.mpr h.2.2.1 c_1) rfl dN_enzyme_24
  · have h_k0 := (c_1 : ¬ kind < 0)
    refine lv_iload_n hx hb dN_enzyme_4 rfl (lv_at hl 1 rfl) ?_
    refine lv_iconst (v := 3) hx hb dN_enzyme_5 (by decide) ?_
    refine lv_icmp_gt (tgt := 23) hx hb dN_enzyme_6 (by decide) (fun c_2 => ?_) (fun c_2 => ?_)
    · refine lv_iconst (v := 0) hx hb dN_enzyme_23 (by decide) ?_
      exact ct_ret0 hx hb hr rfl hlocks hP hK hD hS (fun h => absurd (lt4_3 h.2.2.2) (Int32.not_le.mpr c_2)) rfl dN_enzyme_24
    · have h_k1 := (lt3_4 (Int32.not_lt.mp c_2) : kind < 4)
      refine lv_dload_n hx hb dN_enzyme_9 rfl (lv_at hl 2 rfl) ?_
      refine lv_dconst0 hx hb dN_enzyme_10 ?_
      refine ct_topd (y := 0) rfl ?_
      refine lv_dcmp hx hb dN_enzyme_11 ?_
      refine lv_if_le (tgt := 23) hx hb dN_enzyme_12 (by decide) (fun c_3 => ?_) (fun c_3 => ?_)
      · refine lv_iconst (v := 0) hx hb dN_enzyme_23 (by decide) ?_
        exact ct_ret0 hx hb hr rfl hlocks hP hK hD hS (fun h => (cv_l_le _).mp c_3 h.1) rfl dN_enzyme_24
      · have h_am0 := (Classical.not_not.mp fun h => c_3 ((cv_l_le _).mpr h) : FP.dcmp am 0 = some .gt)
        refine lv_dload_n hx hb dN_enzyme_15 rfl (lv_at hl 2 rfl) ?_
        refine lv_ldc2d hx hb hown (hts _ tw_d_N_30) dN_enzyme_16 ?_
        refine lv_dcmp hx hb dN_enzyme_19 ?_
        refine lv_if_le (tgt := 25) hx hb dN_enzyme_20 (by decide) (fun c_4 => ?_) (fun c_4 => ?_)
        · have h_am1 := ((cv_l_le _).mp c_4 : ¬ FP.dcmp am 4652007308841189376 = some .gt)
          have hz : ezOK kind am := ⟨h_am0, h_am1, Int32.not_lt.mp h_k0, h_k1⟩
          obtain ⟨k, hk, rfl⟩ := nI_of (x := kind) h_k0
          have hk4 : k < 4 := (nI_ltI hk (by decide)).mp h_k1
          have hok9 := hok hz
          rw [nI_clamp hk] at hok9
          rw [nI_clamp hk]
          refine lv_aload_n hx hb dN_enzyme_25 rfl (lv_at hl 0 rfl) ?_
          refine va_get (D := (dC, dI)) (ci := 3) (v := .ref (ad 1)) (C := "MashEnzymesModel") (T := F_N) (N := 14) hx hb hts in_N hown hK hP 0 rfl rfl 0 (by decide) (hts _ tw_f_N_9) (fun _ h9 => h9) rfl dN_enzyme_26 ?_
          refine lv_bipush (v := 9) hx hb dN_enzyme_29 (by decide) ?_
          refine lv_iload_n hx hb dN_enzyme_31 rfl (lv_at hl 1 rfl) ?_
          refine lv_iadd hx hb dN_enzyme_32 ?_
          refine ct_topi (y := nI (9 + k)) (by rw [show (9 : Int32) = nI 9 from rfl, nI_add]) ?_
          refine lv_aload_n hx hb dN_enzyme_33 rfl (lv_at hl 0 rfl) ?_
          refine va_get (D := (dC, dI)) (ci := 3) (v := .ref (ad 1)) (C := "MashEnzymesModel") (T := F_N) (N := 14) hx hb hts in_N hown hK hP 0 rfl rfl 0 (by decide) (hts _ tw_f_N_9) (fun _ h9 => h9) rfl dN_enzyme_34 ?_
          refine lv_bipush (v := 9) hx hb dN_enzyme_37 (by decide) ?_
          refine lv_iload_n hx hb dN_enzyme_39 rfl (lv_at hl 1 rfl) ?_
          refine lv_iadd hx hb dN_enzyme_40 ?_
          refine ct_topi (y := nI (9 + k)) (by rw [show (9 : Int32) = nI 9 from rfl, nI_add]) ?_
          refine ct_dald (k := (9 + k)) (v := a (9 + k)) hx hb hK hP 1 0 rfl rfl (vp_in_nI (by omega) (by decide)) (nI_clamp (by omega)) (rfl) dN_enzyme_41 ?_
          refine lv_dload_n hx hb dN_enzyme_42 rfl (lv_at hl 2 rfl) ?_
          refine lv_dadd hx hb dN_enzyme_43 (hok9) ?_
          refine ct_dast (k := (9 + k)) (w1 := (wN ad cA (vf_upd a (9 + k) (FP.dadd (a (9 + k)) am)) Tm Ac gt lt ts nw st hs ht dc pa ib ac)) hx hb hK hP hD hS 1 0 rfl rfl (vp_in_nI (by omega) (by decide)) (nI_clamp (by omega)) (rfl) dN_enzyme_44 (fun H locs hP hD hS => ?_)
          refine lv_iconst (v := 1) hx hb dN_enzyme_45 (by decide) ?_
          exact ct_ret1 hx hb hr rfl hlocks hP hK hD hS hz rfl dN_enzyme_46
        · refine lv_iconst (v := 0) hx hb dN_enzyme_23 (by decide) ?_
          exact ct_ret0 hx hb hr rfl hlocks hP hK hD hS (fun h => h.2.1 (Classical.not_not.mp fun h9 => c_4 ((cv_l_le _).mpr h9))) rfl dN_enzyme_24

set_option maxHeartbeats 4000000 in
set_option maxRecDepth 100000 in
/-- step -/
theorem cN_step (l : Launch) (dC : Nat → ClassId) (dI : Nat → Nat → Nat) (tt : Nat → Nat) (sz : Nat) (ad : Nat → Nat) (cA : Nat → ClassId) (a : Nat → UInt64) (Tm Ac : UInt64) (gt lt : Int32) (ts : UInt64) (nw : Int32) (c0 : Nat) (hs : Nat → Int32) (ht : Nat → UInt64) (dc : Int32) (pa : Nat → UInt64) (ib : Nat → Int32) (ac : Nat → UInt64) (sec : Int32) (d : UInt64) (hc32 : c0 ≤ 32) (hnd : nNo d) : Ct l dC dI tt yN_step bN_step 5 (some .boolean) ({ frames := 0, cells := 0, slots := 0, locals := 0 }) (tN cA) [.ref (ad 0), .int sec, .double d] (wN ad cA a Tm Ac gt lt ts nw (nI c0) hs ht dc pa ib ac) sz (fun A => ctQc dC dI (tN cA) (stOK hs c0 nw sec d) 1 (wN ad cA a Tm Ac gt lt ts nw (nI (c0 + 1)) (upd hs c0 sec) (vf_upd ht c0 d) dc pa ib ac) 0 (wN ad cA a Tm Ac gt lt ts nw (nI c0) hs ht dc pa ib ac) A) := by
  refine ct_of (by decide) (Nat.le_of_ble_eq_true rfl) ?_
  intro p e s m below meth c A ls hx hb hr hts hown hml hlocks hnm hA hS hP hK hD hT hl
  have hl : lv_has ls 5 [(0, .ref (ad 0)), (1, .int sec), (2, .double d)] := hl
  have htp := tpOK_iff (hnd 0 (by decide)) (hnd _ (by decide) : FP.dcmp d 4636737291354636288 ≠ none)
  refine lv_iload_n hx hb dN_step_0 rfl (lv_at hl 1 rfl) ?_
  refine lv_aload_n hx hb dN_step_1 rfl (lv_at hl 0 rfl) ?_
  refine va_get (D := (dC, dI)) (ci := 3) (v := .int nw) (C := "MashEnzymesModel") (T := F_N) (N := 14) hx hb hts in_N hown hK hP 0 rfl rfl 6 (by decide) (hts _ tw_f_N_71) (fun _ h9 => h9) rfl dN_step_2 ?_
  refine lv_icmp_le (tgt := 34) hx hb dN_step_5 (by decide) (fun c_1 => ?_) (fun c_1 => ?_)
  · refine lv_iconst (v := 0) hx hb dN_step_34 (by decide) ?_
    refine lv_istore (lv' := [(4, .int 0), (0, .ref (ad 0)), (1, .int sec), (2, .double d)]) hx hb dN_step_35 hl (by decide) rfl (fun ls hl => ?_)
    refine lv_iload hx hb dN_step_37 (lv_at hl 0 rfl) ?_
    refine lv_if_eq (tgt := 71) hx hb dN_step_39 (by decide) (fun c_2 => ?_) (fun c_2 => ?_)
    · refine lv_iconst (v := 0) hx hb dN_step_71 (by decide) ?_
      exact ct_ret0 hx hb hr rfl hlocks hP hK hD hS (fun h => Int32.not_le.mpr h.1 c_1) rfl dN_step_72
    · exact absurd rfl c_2
  · have h_1 := (Int32.not_le.mp c_1 : nw < sec)
    refine lv_aload_n hx hb dN_step_8 rfl (lv_at hl 0 rfl) ?_
    refine va_get (D := (dC, dI)) (ci := 3) (v := .int (nI c0)) (C := "MashEnzymesModel") (T := F_N) (N := 14) hx hb hts in_N hown hK hP 0 rfl rfl 7 (by decide) (hts _ tw_f_N_75) (fun _ h9 => h9) rfl dN_step_9 ?_
    refine lv_if_eq (tgt := 30) hx hb dN_step_12 (by decide) (fun c_3 => ?_) (fun c_3 => ?_)
    · have hc0 : c0 = 0 := (nI_eq (a := c0) (b := 0) (by omega) (by decide)).mp c_3
      refine lv_iconst (v := 1) hx hb dN_step_30 (by decide) ?_
      refine lv_goto (tgt := 35) hx hb dN_step_31 (by decide) ?_
      refine lv_istore (lv' := [(4, .int 1), (0, .ref (ad 0)), (1, .int sec), (2, .double d)]) hx hb dN_step_35 hl (by decide) rfl (fun ls hl => ?_)
      refine lv_iload hx hb dN_step_37 (lv_at hl 0 rfl) ?_
      refine lv_if_eq (tgt := 71) hx hb dN_step_39 (by decide) (fun c_4 => ?_) (fun c_4 => ?_)
      · exact (absurd c_4 (by decide))
      · refine lv_iload_n hx hb dN_step_42 rfl (lv_at hl 2 rfl) ?_
        refine lv_ldc hx hb hown (hts _ tw_k_N_78) dN_step_43 ?_
        refine lv_icmp_gt (tgt := 71) hx hb dN_step_45 (by decide) (fun c_5 => ?_) (fun c_5 => ?_)
        · refine lv_iconst (v := 0) hx hb dN_step_71 (by decide) ?_
          exact ct_ret0 hx hb hr rfl hlocks hP hK hD hS (fun h => Int32.not_lt.mpr h.2.1 c_5) rfl dN_step_72
        · have h_2 := (Int32.not_lt.mp c_5 : sec ≤ 1000000)
          refine lv_dload_n hx hb dN_step_48 rfl (lv_at hl 3 rfl) ?_
          refine lv_dconst0 hx hb dN_step_49 ?_
          refine ct_topd (y := 0) rfl ?_
          refine lv_dcmp hx hb dN_step_50 ?_
          refine lv_if_lt (tgt := 71) hx hb dN_step_51 (by decide) (fun c_6 => ?_) (fun c_6 => ?_)
          · refine lv_iconst (v := 0) hx hb dN_step_71 (by decide) ?_
            exact ct_ret0 hx hb hr rfl hlocks hP hK hD hS (fun h => (htp.mp h.2.2.1).1 ((cvn_l (hnd 0 (by decide))).mp c_6)) rfl dN_step_72
          · have h_d0 := (fun h => c_6 ((cvn_l (hnd 0 (by decide))).mpr h) : ¬ FP.dcmp d 0 = some .lt)
            refine lv_dload_n hx hb dN_step_54 rfl (lv_at hl 3 rfl) ?_
            refine lv_ldc2d hx hb hown (hts _ tw_d_N_56) dN_step_55 ?_
            refine lv_dcmp hx hb dN_step_58 ?_
            refine lv_if_gt (tgt := 71) hx hb dN_step_59 (by decide) (fun c_7 => ?_) (fun c_7 => ?_)
            · refine lv_iconst (v := 0) hx hb dN_step_71 (by decide) ?_
              exact ct_ret0 hx hb hr rfl hlocks hP hK hD hS (fun h => (htp.mp h.2.2.1).2 ((cv_l_gt _).mp c_7)) rfl dN_step_72
            · have h_d1 := (fun h => c_7 ((cv_l_gt _).mpr h) : ¬ FP.dcmp d 4636737291354636288 = some .gt)
              refine lv_aload_n hx hb dN_step_62 rfl (lv_at hl 1 rfl) ?_
              refine va_get (D := (dC, dI)) (ci := 3) (v := .int (nI c0)) (C := "MashEnzymesModel") (T := F_N) (N := 14) hx hb hts in_N hown hK hP 0 rfl rfl 7 (by decide) (hts _ tw_f_N_75) (fun _ h9 => h9) rfl dN_step_63 ?_
              refine lv_bipush (v := 32) hx hb dN_step_66 (by decide) ?_
              refine lv_icmp_ne (tgt := 73) hx hb dN_step_68 (by decide) (fun c_8 => ?_) (fun c_8 => ?_)
              · have hc9 := (Nat.lt_of_le_of_ne hc32 fun h => c_8 ((nI_eq (a := c0) (b := 32) (by omega) (by decide)).mpr h) : c0 < 32)
                have hz : stOK hs c0 nw sec d := ⟨h_1, h_2, htp.mpr ⟨h_d0, h_d1⟩, hc9, fun h => absurd h (by omega)⟩
                refine lv_aload_n hx hb dN_step_73 rfl (lv_at hl 1 rfl) ?_
                refine va_get (D := (dC, dI)) (ci := 3) (v := .ref (ad 2)) (C := "MashEnzymesModel") (T := F_N) (N := 14) hx hb hts in_N hown hK hP 0 rfl rfl 8 (by decide) (hts _ tw_f_N_13) (fun _ h9 => h9) rfl dN_step_74 ?_
                refine lv_aload_n hx hb dN_step_77 rfl (lv_at hl 1 rfl) ?_
                refine va_get (D := (dC, dI)) (ci := 3) (v := .int (nI c0)) (C := "MashEnzymesModel") (T := F_N) (N := 14) hx hb hts in_N hown hK hP 0 rfl rfl 7 (by decide) (hts _ tw_f_N_75) (fun _ h9 => h9) rfl dN_step_78 ?_
                refine lv_iload_n hx hb dN_step_81 rfl (lv_at hl 2 rfl) ?_
                refine ct_iast (k := c0) (w1 := (wN ad cA a Tm Ac gt lt ts nw (nI c0) (upd hs c0 sec) ht dc pa ib ac)) hx hb hK hP hD hS 2 1 rfl rfl (vp_in_nI hc9 (by decide)) (nI_clamp (by omega)) (rfl) dN_step_82 (fun H locs hP hD hS => ?_)
                refine lv_aload_n hx hb dN_step_83 rfl (lv_at hl 1 rfl) ?_
                refine va_get (D := (dC, dI)) (ci := 3) (v := .ref (ad 3)) (C := "MashEnzymesModel") (T := F_N) (N := 14) hx hb hts in_N hown hK hP 0 rfl rfl 9 (by decide) (hts _ tw_f_N_17) (fun _ h9 => h9) rfl dN_step_84 ?_
                refine lv_aload_n hx hb dN_step_87 rfl (lv_at hl 1 rfl) ?_
                refine va_get (D := (dC, dI)) (ci := 3) (v := .int (nI c0)) (C := "MashEnzymesModel") (T := F_N) (N := 14) hx hb hts in_N hown hK hP 0 rfl rfl 7 (by decide) (hts _ tw_f_N_75) (fun _ h9 => h9) rfl dN_step_88 ?_
                refine lv_dload_n hx hb dN_step_91 rfl (lv_at hl 3 rfl) ?_
                refine ct_dast (k := c0) (w1 := (wN ad cA a Tm Ac gt lt ts nw (nI c0) (upd hs c0 sec) (vf_upd ht c0 d) dc pa ib ac)) hx hb hK hP hD hS 3 2 rfl rfl (vp_in_nI hc9 (by decide)) (nI_clamp (by omega)) (rfl) dN_step_92 (fun H locs hP hD hS => ?_)
                refine lv_aload_n hx hb dN_step_93 rfl (lv_at hl 1 rfl) ?_
                refine lv_dup hx hb dN_step_94 rfl ?_
                refine va_get (D := (dC, dI)) (ci := 3) (v := .int (nI c0)) (C := "MashEnzymesModel") (T := F_N) (N := 14) hx hb hts in_N hown hK hP 0 rfl rfl 7 (by decide) (hts _ tw_f_N_75) (fun _ h9 => h9) rfl dN_step_95 ?_
                refine lv_iconst (v := 1) hx hb dN_step_98 (by decide) ?_
                refine lv_iadd hx hb dN_step_99 ?_
                refine ct_topi (y := nI (c0 + 1)) (nI_1 c0) ?_
                refine va_put (D := (dC, dI)) (ci := 3) (v := .int (nI (c0 + 1))) (ty := .int) (C := "MashEnzymesModel") (T := F_N) (N := 14) hx hb hts in_N t_N t_N_ok n_N hown hK hP hD hS 0 rfl rfl 7 (by decide) (hts _ tw_f_N_75) (fun _ h9 => h9) rfl (by decide +kernel) rfl rfl (Nat.le_of_ble_eq_true rfl) dN_step_100 (fun H locs hP hD hS => ?_)
                have hP : va_P (dC, dI) cls (wN ad cA a Tm Ac gt lt ts nw (nI (c0 + 1)) (upd hs c0 sec) (vf_upd ht c0 d) dc pa ib ac) H := hP
                have hD : va_D A (wN ad cA a Tm Ac gt lt ts nw (nI (c0 + 1)) (upd hs c0 sec) (vf_upd ht c0 d) dc pa ib ac) := hD
                refine lv_iconst (v := 1) hx hb dN_step_103 (by decide) ?_
                exact ct_ret1 hx hb hr rfl hlocks hP hK hD hS hz rfl dN_step_104
              · refine lv_iconst (v := 0) hx hb dN_step_71 (by decide) ?_
                exact ct_ret0 hx hb hr rfl hlocks hP hK hD hS (fun h => absurd h.2.2.2.1 (by have := (nI_eq (a := c0) (b := 32) (by omega) (by decide)).mp c_8; omega)) rfl dN_step_72
    · have hc0 : 0 < c0 := Nat.pos_of_ne_zero fun h => c_3 ((nI_eq (a := c0) (b := 0) (by omega) (by decide)).mpr h)
      refine lv_iload_n hx hb dN_step_15 rfl (lv_at hl 1 rfl) ?_
      refine lv_aload_n hx hb dN_step_16 rfl (lv_at hl 0 rfl) ?_
      refine va_get (D := (dC, dI)) (ci := 3) (v := .ref (ad 2)) (C := "MashEnzymesModel") (T := F_N) (N := 14) hx hb hts in_N hown hK hP 0 rfl rfl 8 (by decide) (hts _ tw_f_N_13) (fun _ h9 => h9) rfl dN_step_17 ?_
      refine lv_aload_n hx hb dN_step_20 rfl (lv_at hl 0 rfl) ?_
      refine va_get (D := (dC, dI)) (ci := 3) (v := .int (nI c0)) (C := "MashEnzymesModel") (T := F_N) (N := 14) hx hb hts in_N hown hK hP 0 rfl rfl 7 (by decide) (hts _ tw_f_N_75) (fun _ h9 => h9) rfl dN_step_21 ?_
      refine lv_iconst (v := 1) hx hb dN_step_24 (by decide) ?_
      refine lv_isub hx hb dN_step_25 ?_
      refine ct_topi (y := nI (c0 - 1)) (pk_sub hc0) ?_
      refine ct_iald (k := (c0 - 1)) (v := hs (c0 - 1)) hx hb hK hP 2 1 rfl rfl (vp_in_nI (by omega) (by decide)) (nI_clamp (by omega)) (rfl) dN_step_26 ?_
      refine lv_icmp_le (tgt := 34) hx hb dN_step_27 (by decide) (fun c_9 => ?_) (fun c_9 => ?_)
      · refine lv_iconst (v := 0) hx hb dN_step_34 (by decide) ?_
        refine lv_istore (lv' := [(4, .int 0), (0, .ref (ad 0)), (1, .int sec), (2, .double d)]) hx hb dN_step_35 hl (by decide) rfl (fun ls hl => ?_)
        refine lv_iload hx hb dN_step_37 (lv_at hl 0 rfl) ?_
        refine lv_if_eq (tgt := 71) hx hb dN_step_39 (by decide) (fun c_10 => ?_) (fun c_10 => ?_)
        · refine lv_iconst (v := 0) hx hb dN_step_71 (by decide) ?_
          exact ct_ret0 hx hb hr rfl hlocks hP hK hD hS (fun h => Int32.not_le.mpr (h.2.2.2.2 hc0) c_9) rfl dN_step_72
        · exact absurd rfl c_10
      · have h_3 := (Int32.not_le.mp c_9 : hs (c0 - 1) < sec)
        refine lv_iconst (v := 1) hx hb dN_step_30 (by decide) ?_
        refine lv_goto (tgt := 35) hx hb dN_step_31 (by decide) ?_
        refine lv_istore (lv' := [(4, .int 1), (0, .ref (ad 0)), (1, .int sec), (2, .double d)]) hx hb dN_step_35 hl (by decide) rfl (fun ls hl => ?_)
        refine lv_iload hx hb dN_step_37 (lv_at hl 0 rfl) ?_
        refine lv_if_eq (tgt := 71) hx hb dN_step_39 (by decide) (fun c_11 => ?_) (fun c_11 => ?_)
        · exact (absurd c_11 (by decide))
        · refine lv_iload_n hx hb dN_step_42 rfl (lv_at hl 2 rfl) ?_
          refine lv_ldc hx hb hown (hts _ tw_k_N_78) dN_step_43 ?_
          refine lv_icmp_gt (tgt := 71) hx hb dN_step_45 (by decide) (fun c_12 => ?_) (fun c_12 => ?_)
          · refine lv_iconst (v := 0) hx hb dN_step_71 (by decide) ?_
            exact ct_ret0 hx hb hr rfl hlocks hP hK hD hS (fun h => Int32.not_lt.mpr h.2.1 c_12) rfl dN_step_72
          · have h_2 := (Int32.not_lt.mp c_12 : sec ≤ 1000000)
            refine lv_dload_n hx hb dN_step_48 rfl (lv_at hl 3 rfl) ?_
            refine lv_dconst0 hx hb dN_step_49 ?_
            refine ct_topd (y := 0) rfl ?_
            refine lv_dcmp hx hb dN_step_50 ?_
            refine lv_if_lt (tgt := 71) hx hb dN_step_51 (by decide) (fun c_13 => ?_) (fun c_13 => ?_)
            · refine lv_iconst (v := 0) hx hb dN_step_71 (by decide) ?_
              exact ct_ret0 hx hb hr rfl hlocks hP hK hD hS (fun h => (htp.mp h.2.2.1).1 ((cvn_l (hnd 0 (by decide))).mp c_13)) rfl dN_step_72
            · have h_d0 := (fun h => c_13 ((cvn_l (hnd 0 (by decide))).mpr h) : ¬ FP.dcmp d 0 = some .lt)
              refine lv_dload_n hx hb dN_step_54 rfl (lv_at hl 3 rfl) ?_
              refine lv_ldc2d hx hb hown (hts _ tw_d_N_56) dN_step_55 ?_
              refine lv_dcmp hx hb dN_step_58 ?_
              refine lv_if_gt (tgt := 71) hx hb dN_step_59 (by decide) (fun c_14 => ?_) (fun c_14 => ?_)
              · refine lv_iconst (v := 0) hx hb dN_step_71 (by decide) ?_
                exact ct_ret0 hx hb hr rfl hlocks hP hK hD hS (fun h => (htp.mp h.2.2.1).2 ((cv_l_gt _).mp c_14)) rfl dN_step_72
              · have h_d1 := (fun h => c_14 ((cv_l_gt _).mpr h) : ¬ FP.dcmp d 4636737291354636288 = some .gt)
                refine lv_aload_n hx hb dN_step_62 rfl (lv_at hl 1 rfl) ?_
                refine va_get (D := (dC, dI)) (ci := 3) (v := .int (nI c0)) (C := "MashEnzymesModel") (T := F_N) (N := 14) hx hb hts in_N hown hK hP 0 rfl rfl 7 (by decide) (hts _ tw_f_N_75) (fun _ h9 => h9) rfl dN_step_63 ?_
                refine lv_bipush (v := 32) hx hb dN_step_66 (by decide) ?_
                refine lv_icmp_ne (tgt := 73) hx hb dN_step_68 (by decide) (fun c_15 => ?_) (fun c_15 => ?_)
                · have hc9 := (Nat.lt_of_le_of_ne hc32 fun h => c_15 ((nI_eq (a := c0) (b := 32) (by omega) (by decide)).mpr h) : c0 < 32)
                  have hz : stOK hs c0 nw sec d := ⟨h_1, h_2, htp.mpr ⟨h_d0, h_d1⟩, hc9, fun _ => h_3⟩
                  refine lv_aload_n hx hb dN_step_73 rfl (lv_at hl 1 rfl) ?_
                  refine va_get (D := (dC, dI)) (ci := 3) (v := .ref (ad 2)) (C := "MashEnzymesModel") (T := F_N) (N := 14) hx hb hts in_N hown hK hP 0 rfl rfl 8 (by decide) (hts _ tw_f_N_13) (fun _ h9 => h9) rfl dN_step_74 ?_
                  refine lv_aload_n hx hb dN_step_77 rfl (lv_at hl 1 rfl) ?_
                  refine va_get (D := (dC, dI)) (ci := 3) (v := .int (nI c0)) (C := "MashEnzymesModel") (T := F_N) (N := 14) hx hb hts in_N hown hK hP 0 rfl rfl 7 (by decide) (hts _ tw_f_N_75) (fun _ h9 => h9) rfl dN_step_78 ?_
                  refine lv_iload_n hx hb dN_step_81 rfl (lv_at hl 2 rfl) ?_
                  refine ct_iast (k := c0) (w1 := (wN ad cA a Tm Ac gt lt ts nw (nI c0) (upd hs c0 sec) ht dc pa ib ac)) hx hb hK hP hD hS 2 1 rfl rfl (vp_in_nI hc9 (by decide)) (nI_clamp (by omega)) (rfl) dN_step_82 (fun H locs hP hD hS => ?_)
                  refine lv_aload_n hx hb dN_step_83 rfl (lv_at hl 1 rfl) ?_
                  refine va_get (D := (dC, dI)) (ci := 3) (v := .ref (ad 3)) (C := "MashEnzymesModel") (T := F_N) (N := 14) hx hb hts in_N hown hK hP 0 rfl rfl 9 (by decide) (hts _ tw_f_N_17) (fun _ h9 => h9) rfl dN_step_84 ?_
                  refine lv_aload_n hx hb dN_step_87 rfl (lv_at hl 1 rfl) ?_
                  refine va_get (D := (dC, dI)) (ci := 3) (v := .int (nI c0)) (C := "MashEnzymesModel") (T := F_N) (N := 14) hx hb hts in_N hown hK hP 0 rfl rfl 7 (by decide) (hts _ tw_f_N_75) (fun _ h9 => h9) rfl dN_step_88 ?_
                  refine lv_dload_n hx hb dN_step_91 rfl (lv_at hl 3 rfl) ?_
                  refine ct_dast (k := c0) (w1 := (wN ad cA a Tm Ac gt lt ts nw (nI c0) (upd hs c0 sec) (vf_upd ht c0 d) dc pa ib ac)) hx hb hK hP hD hS 3 2 rfl rfl (vp_in_nI hc9 (by decide)) (nI_clamp (by omega)) (rfl) dN_step_92 (fun H locs hP hD hS => ?_)
                  refine lv_aload_n hx hb dN_step_93 rfl (lv_at hl 1 rfl) ?_
                  refine lv_dup hx hb dN_step_94 rfl ?_
                  refine va_get (D := (dC, dI)) (ci := 3) (v := .int (nI c0)) (C := "MashEnzymesModel") (T := F_N) (N := 14) hx hb hts in_N hown hK hP 0 rfl rfl 7 (by decide) (hts _ tw_f_N_75) (fun _ h9 => h9) rfl dN_step_95 ?_
                  refine lv_iconst (v := 1) hx hb dN_step_98 (by decide) ?_
                  refine lv_iadd hx hb dN_step_99 ?_
                  refine ct_topi (y := nI (c0 + 1)) (nI_1 c0) ?_
                  refine va_put (D := (dC, dI)) (ci := 3) (v := .int (nI (c0 + 1))) (ty := .int) (C := "MashEnzymesModel") (T := F_N) (N := 14) hx hb hts in_N t_N t_N_ok n_N hown hK hP hD hS 0 rfl rfl 7 (by decide) (hts _ tw_f_N_75) (fun _ h9 => h9) rfl (by decide +kernel) rfl rfl (Nat.le_of_ble_eq_true rfl) dN_step_100 (fun H locs hP hD hS => ?_)
                  have hP : va_P (dC, dI) cls (wN ad cA a Tm Ac gt lt ts nw (nI (c0 + 1)) (upd hs c0 sec) (vf_upd ht c0 d) dc pa ib ac) H := hP
                  have hD : va_D A (wN ad cA a Tm Ac gt lt ts nw (nI (c0 + 1)) (upd hs c0 sec) (vf_upd ht c0 d) dc pa ib ac) := hD
                  refine lv_iconst (v := 1) hx hb dN_step_103 (by decide) ?_
                  exact ct_ret1 hx hb hr rfl hlocks hP hK hD hS hz rfl dN_step_104
                · refine lv_iconst (v := 0) hx hb dN_step_71 (by decide) ?_
                  exact ct_ret0 hx hb hr rfl hlocks hP hK hD hS (fun h => absurd h.2.2.2.1 (by have := (nI_eq (a := c0) (b := 32) (by omega) (by decide)).mp c_15; omega)) rfl dN_step_72

set_option maxHeartbeats 4000000 in
set_option maxRecDepth 100000 in
/-- liquor -/
theorem cN_liquor (l : Launch) (dC : Nat → ClassId) (dI : Nat → Nat → Nat) (tt : Nat → Nat) (sz : Nat) (ad : Nat → Nat) (cA : Nat → ClassId) (a : Nat → UInt64) (Tm Ac : UInt64) (gt lt : Int32) (ts : UInt64) (nw st : Int32) (hs : Nat → Int32) (ht : Nat → UInt64) (dc : Int32) (pa : Nat → UInt64) (ib : Nat → Int32) (ac : Nat → UInt64) (li d ac9 : UInt64) (hnd : nNo d) (hnc : nNo ac9) (hok : lqOK li d ac9 → okM Tm (a 0) d li ∧ okM Ac (a 0) ac9 li) (hgt : lqOK li d ac9 → FP.dcmp (FP.dadd (a 0) li) 0 = some .gt) : Ct l dC dI tt yN_liquor bN_liquor 7 (some .boolean) ({ frames := 0, cells := 0, slots := 0, locals := 0 }) (tN cA) [.ref (ad 0), .double li, .double d, .double ac9] (wN ad cA a Tm Ac gt lt ts nw st hs ht dc pa ib ac) sz (fun A => ctQc dC dI (tN cA) (lqOK li d ac9) 1 (wN ad cA (vf_upd a 0 (FP.dadd (a 0) li)) (mixD Tm (a 0) d li) (mixD Ac (a 0) ac9 li) gt 1 ts nw st hs ht dc pa ib ac) 0 (wN ad cA a Tm Ac gt lt ts nw st hs ht dc pa ib ac) A) := by
  refine ct_of (by decide) (Nat.le_of_ble_eq_true rfl) ?_
  intro p e s m below meth c A ls hx hb hr hts hown hml hlocks hnm hA hS hP hK hD hT hl
  have hl : lv_has ls 7 [(0, .ref (ad 0)), (1, .double li), (3, .double d), (5, .double ac9)] := hl
  have htp := tpOK_iff (hnd 0 (by decide)) (hnd _ (by decide) : FP.dcmp d 4636737291354636288 ≠ none)
  refine lv_dload_n hx hb dN_liquor_0 rfl (lv_at hl 1 rfl) ?_
  refine lv_dconst0 hx hb dN_liquor_1 ?_
  refine ct_topd (y := 0) rfl ?_
  refine lv_dcmp hx hb dN_liquor_2 ?_
  refine lv_if_le (tgt := 46) hx hb dN_liquor_3 (by decide) (fun c_1 => ?_) (fun c_1 => ?_)
  · refine lv_iconst (v := 0) hx hb dN_liquor_46 (by decide) ?_
    exact ct_ret0 hx hb hr rfl hlocks hP hK hD hS (fun h => (cv_l_le _).mp c_1 h.1) rfl dN_liquor_47
  · have h_li0 := (Classical.not_not.mp fun h => c_1 ((cv_l_le _).mpr h) : FP.dcmp li 0 = some .gt)
    refine lv_dload_n hx hb dN_liquor_6 rfl (lv_at hl 1 rfl) ?_
    refine lv_ldc2d hx hb hown (hts _ tw_d_N_54) dN_liquor_7 ?_
    refine lv_dcmp hx hb dN_liquor_10 ?_
    refine lv_if_gt (tgt := 46) hx hb dN_liquor_11 (by decide) (fun c_2 => ?_) (fun c_2 => ?_)
    · refine lv_iconst (v := 0) hx hb dN_liquor_46 (by decide) ?_
      exact ct_ret0 hx hb hr rfl hlocks hP hK hD hS (fun h => h.2.1 ((cv_l_gt _).mp c_2)) rfl dN_liquor_47
    · have h_li1 := (fun h => c_2 ((cv_l_gt _).mpr h) : ¬ FP.dcmp li 4666723172467343360 = some .gt)
      refine lv_dload_n hx hb dN_liquor_14 rfl (lv_at hl 2 rfl) ?_
      refine lv_dconst0 hx hb dN_liquor_15 ?_
      refine ct_topd (y := 0) rfl ?_
      refine lv_dcmp hx hb dN_liquor_16 ?_
      refine lv_if_lt (tgt := 46) hx hb dN_liquor_17 (by decide) (fun c_3 => ?_) (fun c_3 => ?_)
      · refine lv_iconst (v := 0) hx hb dN_liquor_46 (by decide) ?_
        exact ct_ret0 hx hb hr rfl hlocks hP hK hD hS (fun h => (htp.mp h.2.2.1).1 ((cvn_l (hnd 0 (by decide))).mp c_3)) rfl dN_liquor_47
      · have h_d0 := (fun h => c_3 ((cvn_l (hnd 0 (by decide))).mpr h) : ¬ FP.dcmp d 0 = some .lt)
        refine lv_dload_n hx hb dN_liquor_20 rfl (lv_at hl 2 rfl) ?_
        refine lv_ldc2d hx hb hown (hts _ tw_d_N_56) dN_liquor_21 ?_
        refine lv_dcmp hx hb dN_liquor_24 ?_
        refine lv_if_gt (tgt := 46) hx hb dN_liquor_25 (by decide) (fun c_4 => ?_) (fun c_4 => ?_)
        · refine lv_iconst (v := 0) hx hb dN_liquor_46 (by decide) ?_
          exact ct_ret0 hx hb hr rfl hlocks hP hK hD hS (fun h => (htp.mp h.2.2.1).2 ((cv_l_gt _).mp c_4)) rfl dN_liquor_47
        · have h_d1 := (fun h => c_4 ((cv_l_gt _).mpr h) : ¬ FP.dcmp d 4636737291354636288 = some .gt)
          refine lv_dload hx hb dN_liquor_28 (lv_at hl 3 rfl) ?_
          refine lv_ldc2d hx hb hown (hts _ tw_d_N_58) dN_liquor_30 ?_
          refine lv_dcmp hx hb dN_liquor_33 ?_
          refine lv_if_lt (tgt := 46) hx hb dN_liquor_34 (by decide) (fun c_5 => ?_) (fun c_5 => ?_)
          · refine lv_iconst (v := 0) hx hb dN_liquor_46 (by decide) ?_
            exact ct_ret0 hx hb hr rfl hlocks hP hK hD hS (fun h => h.2.2.2.1 ((cvn_l (hnc _ (by decide))).mp c_5)) rfl dN_liquor_47
          · have h_a1 := (fun h => c_5 ((cvn_l (hnc _ (by decide))).mpr h) : ¬ FP.dcmp ac9 4613937818241073152 = some .lt)
            refine lv_dload hx hb dN_liquor_37 (lv_at hl 3 rfl) ?_
            refine lv_ldc2d hx hb hown (hts _ tw_d_N_60) dN_liquor_39 ?_
            refine lv_dcmp hx hb dN_liquor_42 ?_
            refine lv_if_le (tgt := 48) hx hb dN_liquor_43 (by decide) (fun c_6 => ?_) (fun c_6 => ?_)
            · have h_a2 := ((cv_l_le _).mp c_6 : ¬ FP.dcmp ac9 4620693217682128896 = some .gt)
              have hlq : lqOK li d ac9 := ⟨h_li0, h_li1, htp.mpr ⟨h_d0, h_d1⟩, h_a1, h_a2⟩
              have hok9 := hok hlq
              have hg := hgt hlq
              refine lv_aload_n hx hb dN_liquor_48 rfl (lv_at hl 0 rfl) ?_
              refine lv_aload_n hx hb dN_liquor_49 rfl (lv_at hl 0 rfl) ?_
              refine va_get (D := (dC, dI)) (ci := 3) (v := .double Tm) (C := "MashEnzymesModel") (T := F_N) (N := 14) hx hb hts in_N hown hK hP 0 rfl rfl 1 (by decide) (hts _ tw_f_N_62) (fun _ h9 => h9) rfl dN_liquor_50 ?_
              refine lv_aload_n hx hb dN_liquor_53 rfl (lv_at hl 0 rfl) ?_
              refine va_get (D := (dC, dI)) (ci := 3) (v := .ref (ad 1)) (C := "MashEnzymesModel") (T := F_N) (N := 14) hx hb hts in_N hown hK hP 0 rfl rfl 0 (by decide) (hts _ tw_f_N_9) (fun _ h9 => h9) rfl dN_liquor_54 ?_
              refine lv_iconst (v := 0) hx hb dN_liquor_57 (by decide) ?_
              refine ct_dald (k := 0) (v := a 0) hx hb hK hP 1 0 rfl rfl (by unfold vp_in; decide) (rfl) (rfl) dN_liquor_58 ?_
              refine lv_dmul hx hb dN_liquor_59 ((hok9.1.2 hg).1) ?_
              refine lv_dload_n hx hb dN_liquor_60 rfl (lv_at hl 2 rfl) ?_
              refine lv_dload_n hx hb dN_liquor_61 rfl (lv_at hl 1 rfl) ?_
              refine lv_dmul hx hb dN_liquor_62 ((hok9.1.2 hg).2.1) ?_
              refine lv_dadd hx hb dN_liquor_63 ((hok9.1.2 hg).2.2.1) ?_
              refine lv_aload_n hx hb dN_liquor_64 rfl (lv_at hl 0 rfl) ?_
              refine va_get (D := (dC, dI)) (ci := 3) (v := .ref (ad 1)) (C := "MashEnzymesModel") (T := F_N) (N := 14) hx hb hts in_N hown hK hP 0 rfl rfl 0 (by decide) (hts _ tw_f_N_9) (fun _ h9 => h9) rfl dN_liquor_65 ?_
              refine lv_iconst (v := 0) hx hb dN_liquor_68 (by decide) ?_
              refine ct_dald (k := 0) (v := a 0) hx hb hK hP 1 0 rfl rfl (by unfold vp_in; decide) (rfl) (rfl) dN_liquor_69 ?_
              refine lv_dload_n hx hb dN_liquor_70 rfl (lv_at hl 1 rfl) ?_
              refine lv_dadd hx hb dN_liquor_71 (hok9.1.1) ?_
              refine lv_ddiv hx hb dN_liquor_72 ((hok9.1.2 hg).2.2.2) ?_
              refine ct_topd (y := mixD Tm (a 0) d li) (by unfold mixD; rw [if_pos hg]) ?_
              refine va_put (D := (dC, dI)) (ci := 3) (v := .double (mixD Tm (a 0) d li)) (ty := .double) (C := "MashEnzymesModel") (T := F_N) (N := 14) hx hb hts in_N t_N t_N_ok n_N hown hK hP hD hS 0 rfl rfl 1 (by decide) (hts _ tw_f_N_62) (fun _ h9 => h9) rfl (by decide +kernel) rfl rfl (Nat.le_of_ble_eq_true rfl) dN_liquor_73 (fun H locs hP hD hS => ?_)
              have hP : va_P (dC, dI) cls (wN ad cA a (mixD Tm (a 0) d li) Ac gt lt ts nw st hs ht dc pa ib ac) H := hP
              have hD : va_D A (wN ad cA a (mixD Tm (a 0) d li) Ac gt lt ts nw st hs ht dc pa ib ac) := hD
              refine lv_aload_n hx hb dN_liquor_76 rfl (lv_at hl 0 rfl) ?_
              refine lv_aload_n hx hb dN_liquor_77 rfl (lv_at hl 0 rfl) ?_
              refine va_get (D := (dC, dI)) (ci := 3) (v := .double Ac) (C := "MashEnzymesModel") (T := F_N) (N := 14) hx hb hts in_N hown hK hP 0 rfl rfl 2 (by decide) (hts _ tw_f_N_65) (fun _ h9 => h9) rfl dN_liquor_78 ?_
              refine lv_aload_n hx hb dN_liquor_81 rfl (lv_at hl 0 rfl) ?_
              refine va_get (D := (dC, dI)) (ci := 3) (v := .ref (ad 1)) (C := "MashEnzymesModel") (T := F_N) (N := 14) hx hb hts in_N hown hK hP 0 rfl rfl 0 (by decide) (hts _ tw_f_N_9) (fun _ h9 => h9) rfl dN_liquor_82 ?_
              refine lv_iconst (v := 0) hx hb dN_liquor_85 (by decide) ?_
              refine ct_dald (k := 0) (v := a 0) hx hb hK hP 1 0 rfl rfl (by unfold vp_in; decide) (rfl) (rfl) dN_liquor_86 ?_
              refine lv_dmul hx hb dN_liquor_87 ((hok9.2.2 hg).1) ?_
              refine lv_dload hx hb dN_liquor_88 (lv_at hl 3 rfl) ?_
              refine lv_dload_n hx hb dN_liquor_90 rfl (lv_at hl 1 rfl) ?_
              refine lv_dmul hx hb dN_liquor_91 ((hok9.2.2 hg).2.1) ?_
              refine lv_dadd hx hb dN_liquor_92 ((hok9.2.2 hg).2.2.1) ?_
              refine lv_aload_n hx hb dN_liquor_93 rfl (lv_at hl 0 rfl) ?_
              refine va_get (D := (dC, dI)) (ci := 3) (v := .ref (ad 1)) (C := "MashEnzymesModel") (T := F_N) (N := 14) hx hb hts in_N hown hK hP 0 rfl rfl 0 (by decide) (hts _ tw_f_N_9) (fun _ h9 => h9) rfl dN_liquor_94 ?_
              refine lv_iconst (v := 0) hx hb dN_liquor_97 (by decide) ?_
              refine ct_dald (k := 0) (v := a 0) hx hb hK hP 1 0 rfl rfl (by unfold vp_in; decide) (rfl) (rfl) dN_liquor_98 ?_
              refine lv_dload_n hx hb dN_liquor_99 rfl (lv_at hl 1 rfl) ?_
              refine lv_dadd hx hb dN_liquor_100 (hok9.1.1) ?_
              refine lv_ddiv hx hb dN_liquor_101 ((hok9.2.2 hg).2.2.2) ?_
              refine ct_topd (y := mixD Ac (a 0) ac9 li) (by unfold mixD; rw [if_pos hg]) ?_
              refine va_put (D := (dC, dI)) (ci := 3) (v := .double (mixD Ac (a 0) ac9 li)) (ty := .double) (C := "MashEnzymesModel") (T := F_N) (N := 14) hx hb hts in_N t_N t_N_ok n_N hown hK hP hD hS 0 rfl rfl 2 (by decide) (hts _ tw_f_N_65) (fun _ h9 => h9) rfl (by decide +kernel) rfl rfl (Nat.le_of_ble_eq_true rfl) dN_liquor_102 (fun H locs hP hD hS => ?_)
              have hP : va_P (dC, dI) cls (wN ad cA a (mixD Tm (a 0) d li) (mixD Ac (a 0) ac9 li) gt lt ts nw st hs ht dc pa ib ac) H := hP
              have hD : va_D A (wN ad cA a (mixD Tm (a 0) d li) (mixD Ac (a 0) ac9 li) gt lt ts nw st hs ht dc pa ib ac) := hD
              refine lv_aload_n hx hb dN_liquor_105 rfl (lv_at hl 0 rfl) ?_
              refine va_get (D := (dC, dI)) (ci := 3) (v := .ref (ad 1)) (C := "MashEnzymesModel") (T := F_N) (N := 14) hx hb hts in_N hown hK hP 0 rfl rfl 0 (by decide) (hts _ tw_f_N_9) (fun _ h9 => h9) rfl dN_liquor_106 ?_
              refine lv_iconst (v := 0) hx hb dN_liquor_109 (by decide) ?_
              refine lv_aload_n hx hb dN_liquor_110 rfl (lv_at hl 0 rfl) ?_
              refine va_get (D := (dC, dI)) (ci := 3) (v := .ref (ad 1)) (C := "MashEnzymesModel") (T := F_N) (N := 14) hx hb hts in_N hown hK hP 0 rfl rfl 0 (by decide) (hts _ tw_f_N_9) (fun _ h9 => h9) rfl dN_liquor_111 ?_
              refine lv_iconst (v := 0) hx hb dN_liquor_114 (by decide) ?_
              refine ct_dald (k := 0) (v := a 0) hx hb hK hP 1 0 rfl rfl (by unfold vp_in; decide) (rfl) (rfl) dN_liquor_115 ?_
              refine lv_dload_n hx hb dN_liquor_116 rfl (lv_at hl 1 rfl) ?_
              refine lv_dadd hx hb dN_liquor_117 (hok9.1.1) ?_
              refine ct_dast (k := 0) (w1 := (wN ad cA (vf_upd a 0 (FP.dadd (a 0) li)) (mixD Tm (a 0) d li) (mixD Ac (a 0) ac9 li) gt lt ts nw st hs ht dc pa ib ac)) hx hb hK hP hD hS 1 0 rfl rfl (by unfold vp_in; decide) (rfl) (rfl) dN_liquor_118 (fun H locs hP hD hS => ?_)
              refine lv_aload_n hx hb dN_liquor_119 rfl (lv_at hl 0 rfl) ?_
              refine lv_iconst (v := 1) hx hb dN_liquor_120 (by decide) ?_
              refine va_put (D := (dC, dI)) (ci := 3) (v := .int 1) (ty := .boolean) (C := "MashEnzymesModel") (T := F_N) (N := 14) hx hb hts in_N t_N t_N_ok n_N hown hK hP hD hS 0 rfl rfl 4 (by decide) (hts _ tw_f_N_68) (fun _ h9 => h9) rfl (by decide +kernel) rfl rfl (Nat.le_of_ble_eq_true rfl) dN_liquor_121 (fun H locs hP hD hS => ?_)
              have hP : va_P (dC, dI) cls (wN ad cA (vf_upd a 0 (FP.dadd (a 0) li)) (mixD Tm (a 0) d li) (mixD Ac (a 0) ac9 li) gt 1 ts nw st hs ht dc pa ib ac) H := hP
              have hD : va_D A (wN ad cA (vf_upd a 0 (FP.dadd (a 0) li)) (mixD Tm (a 0) d li) (mixD Ac (a 0) ac9 li) gt 1 ts nw st hs ht dc pa ib ac) := hD
              refine lv_iconst (v := 1) hx hb dN_liquor_124 (by decide) ?_
              exact ct_ret1 hx hb hr rfl hlocks hP hK hD hS hlq rfl dN_liquor_125
            · refine lv_iconst (v := 0) hx hb dN_liquor_46 (by decide) ?_
              exact ct_ret0 hx hb hr rfl hlocks hP hK hD hS (fun h => h.2.2.2.2 (Classical.not_not.mp fun h9 => c_6 ((cv_l_le _).mpr h9))) rfl dN_liquor_47

theorem gp_c : gpD 0 = 4593671619917905920 ∧ gpD 1 = 4589168020290535424 ∧ gpD 2 = 4595923419731591168 := by decide +kernel
theorem ge_c0 : geD 0 0 = 4607182418800017408 ∧ geD 0 1 = 4604930618986332160 ∧ geD 0 2 = 4598175219545276416 ∧ geD 0 3 = 4602678819172646912 := by decide +kernel
theorem ge_c2 : geD 2 0 = 4602678819172646912 ∧ geD 2 1 = 4600427019358961664 ∧ geD 2 2 = 4593671619917905920 ∧ geD 2 3 = 4598175219545276416 := by decide +kernel
theorem grE_4 (kg : UInt64) (k : Nat) (b : Nat → UInt64) : grE kg k 4 b = vf_upd (vf_upd (vf_upd (vf_upd b 9 (FP.dadd (b 9) (FP.dmul kg (geD k 0)))) 10 (FP.dadd (b 10) (FP.dmul kg (geD k 1)))) 11 (FP.dadd (b 11) (FP.dmul kg (geD k 2)))) 12 (FP.dadd (b 12) (FP.dmul kg (geD k 3))) := by
  rw [← grE_s, ← grE_s, ← grE_s, ← grE_s, grE_0]
theorem grE_id {kg : UInt64} {k : Nat} {b : Nat → UInt64} (h : ∀ i, i < 4 → FP.dadd (b (9 + i)) (FP.dmul kg (geD k i)) = b (9 + i)) : grE kg k 4 b = b := funext fun m => by
  unfold grE
  split
  · rename_i h1
    have := h (m - 9) (by omega)
    rwa [show 9 + (m - 9) = m by omega] at this
  · rfl
set_option maxHeartbeats 4000000 in
set_option maxRecDepth 100000 in
theorem gNg_0 {p : Program} {l : Launch} {e : Env} {R : Room} {s : State} {m : MethodId} {below : List Frame} {meth : Method} {c : Code} {A : Nat → Prop} {dC : Nat → ClassId} {dI : Nat → Nat → Nat} {ad : Nat → Nat} {cA : Nat → ClassId} {Q : State → Prop} {cells slots : Nat} {av : List Value} (b : Nat → UInt64) (kg : UInt64) (Tm Ac : UInt64) (gt lt : Int32) (ts : UInt64) (nw st : Int32) (hs : Nat → Int32) (ht : Nat → UInt64) (dc : Int32) (pa : Nat → UInt64) (ib : Nat → Int32) (ac : Nat → UInt64) (hx : p.tables.exec = Jvm.exec) (hb : c.code = bN_grain) (hts : ∀ x ∈ wT, x.before av.toArray s = true) (hown : s.vm.findClass "MashEnzymesModel" = some m.cls) (hK : va_K (dC, dI) cls (tN cA) s) (hv : ∀ i, i < 4 → vf_n64 (FP.dmul kg (geD 0 i)) ∧ vf_n64 (FP.dadd (b (9 + i)) (FP.dmul kg (geD 0 i)))) (k : ∀ (ls : Array Slot) (H : Heap) (locs : List Loc), va_P (dC, dI) cls (wN ad cA (grE kg 0 4 b) Tm Ac gt lt ts nw st hs ht dc pa ib ac) H → va_D A (wN ad cA (grE kg 0 4 b) Tm Ac gt lt ts nw st hs ht dc pa ib ac) → va_S A s.heap H locs → lv_has ls 6 [(1, .double kg), (0, .ref (ad 0))] → W p l e R s m av.toArray below meth c H locs cells slots Q (F0 m 282 ls [])) : ∀ (ls : Array Slot) (H : Heap) (locs : List Loc), va_P (dC, dI) cls (wN ad cA b Tm Ac gt lt ts nw st hs ht dc pa ib ac) H → va_D A (wN ad cA b Tm Ac gt lt ts nw st hs ht dc pa ib ac) → va_S A s.heap H locs → lv_has ls 6 [(1, .double kg), (0, .ref (ad 0))] → W p l e R s m av.toArray below meth c H locs cells slots Q (F0 m 115 ls []) := by
  intro ls H locs hP hD hS hl
  refine lv_aload_n hx hb dN_grain_115 rfl (lv_at hl 1 rfl) ?_
  refine va_get (D := (dC, dI)) (ci := 3) (v := .ref (ad 1)) (C := "MashEnzymesModel") (T := F_N) (N := 14) hx hb hts in_N hown hK hP 0 rfl rfl 0 (by decide) (hts _ tw_f_N_9) (fun _ h9 => h9) rfl dN_grain_116 ?_
  refine lv_bipush (v := 9) hx hb dN_grain_119 (by decide) ?_
  refine lv_aload_n hx hb dN_grain_121 rfl (lv_at hl 1 rfl) ?_
  refine va_get (D := (dC, dI)) (ci := 3) (v := .ref (ad 1)) (C := "MashEnzymesModel") (T := F_N) (N := 14) hx hb hts in_N hown hK hP 0 rfl rfl 0 (by decide) (hts _ tw_f_N_9) (fun _ h9 => h9) rfl dN_grain_122 ?_
  refine lv_bipush (v := 9) hx hb dN_grain_125 (by decide) ?_
  refine ct_dald (k := 9) (v := b 9) hx hb hK hP 1 0 rfl rfl (by unfold vp_in; decide) (rfl) (rfl) dN_grain_127 ?_
  refine lv_dload_n hx hb dN_grain_128 rfl (lv_at hl 0 rfl) ?_
  refine lv_dconst1 hx hb dN_grain_129 ?_
  refine ct_topd (y := 4607182418800017408) rfl ?_
  refine lv_dmul hx hb dN_grain_130 (by rw [← ge_c0.1]; exact (hv 0 (by decide)).1) ?_
  refine ct_topd (y := FP.dmul kg (geD 0 0)) (by rw [ge_c0.1]) ?_
  refine lv_dadd hx hb dN_grain_131 ((hv 0 (by decide)).2) ?_
  refine ct_dast (k := 9) (w1 := (wN ad cA (vf_upd b 9 (FP.dadd (b 9) (FP.dmul kg (geD 0 0)))) Tm Ac gt lt ts nw st hs ht dc pa ib ac)) hx hb hK hP hD hS 1 0 rfl rfl (by unfold vp_in; decide) (rfl) (rfl) dN_grain_132 (fun H locs hP hD hS => ?_)
  refine lv_aload_n hx hb dN_grain_133 rfl (lv_at hl 1 rfl) ?_
  refine va_get (D := (dC, dI)) (ci := 3) (v := .ref (ad 1)) (C := "MashEnzymesModel") (T := F_N) (N := 14) hx hb hts in_N hown hK hP 0 rfl rfl 0 (by decide) (hts _ tw_f_N_9) (fun _ h9 => h9) rfl dN_grain_134 ?_
  refine lv_bipush (v := 10) hx hb dN_grain_137 (by decide) ?_
  refine lv_aload_n hx hb dN_grain_139 rfl (lv_at hl 1 rfl) ?_
  refine va_get (D := (dC, dI)) (ci := 3) (v := .ref (ad 1)) (C := "MashEnzymesModel") (T := F_N) (N := 14) hx hb hts in_N hown hK hP 0 rfl rfl 0 (by decide) (hts _ tw_f_N_9) (fun _ h9 => h9) rfl dN_grain_140 ?_
  refine lv_bipush (v := 10) hx hb dN_grain_143 (by decide) ?_
  refine ct_dald (k := 10) (v := b 10) hx hb hK hP 1 0 rfl rfl (by unfold vp_in; decide) (rfl) (rfl) dN_grain_145 ?_
  refine lv_dload_n hx hb dN_grain_146 rfl (lv_at hl 0 rfl) ?_
  refine lv_ldc2d hx hb hown (hts _ tw_d_N_42) dN_grain_147 ?_
  refine lv_dmul hx hb dN_grain_150 (by rw [← ge_c0.2.1]; exact (hv 1 (by decide)).1) ?_
  refine ct_topd (y := FP.dmul kg (geD 0 1)) (by rw [ge_c0.2.1]) ?_
  refine lv_dadd hx hb dN_grain_151 ((hv 1 (by decide)).2) ?_
  refine ct_dast (k := 10) (w1 := (wN ad cA (vf_upd (vf_upd b 9 (FP.dadd (b 9) (FP.dmul kg (geD 0 0)))) 10 (FP.dadd (b 10) (FP.dmul kg (geD 0 1)))) Tm Ac gt lt ts nw st hs ht dc pa ib ac)) hx hb hK hP hD hS 1 0 rfl rfl (by unfold vp_in; decide) (rfl) (rfl) dN_grain_152 (fun H locs hP hD hS => ?_)
  refine lv_aload_n hx hb dN_grain_153 rfl (lv_at hl 1 rfl) ?_
  refine va_get (D := (dC, dI)) (ci := 3) (v := .ref (ad 1)) (C := "MashEnzymesModel") (T := F_N) (N := 14) hx hb hts in_N hown hK hP 0 rfl rfl 0 (by decide) (hts _ tw_f_N_9) (fun _ h9 => h9) rfl dN_grain_154 ?_
  refine lv_bipush (v := 11) hx hb dN_grain_157 (by decide) ?_
  refine lv_aload_n hx hb dN_grain_159 rfl (lv_at hl 1 rfl) ?_
  refine va_get (D := (dC, dI)) (ci := 3) (v := .ref (ad 1)) (C := "MashEnzymesModel") (T := F_N) (N := 14) hx hb hts in_N hown hK hP 0 rfl rfl 0 (by decide) (hts _ tw_f_N_9) (fun _ h9 => h9) rfl dN_grain_160 ?_
  refine lv_bipush (v := 11) hx hb dN_grain_163 (by decide) ?_
  refine ct_dald (k := 11) (v := b 11) hx hb hK hP 1 0 rfl rfl (by unfold vp_in; decide) (rfl) (rfl) dN_grain_165 ?_
  refine lv_dload_n hx hb dN_grain_166 rfl (lv_at hl 0 rfl) ?_
  refine lv_ldc2d hx hb hown (hts _ tw_d_N_44) dN_grain_167 ?_
  refine lv_dmul hx hb dN_grain_170 (by rw [← ge_c0.2.2.1]; exact (hv 2 (by decide)).1) ?_
  refine ct_topd (y := FP.dmul kg (geD 0 2)) (by rw [ge_c0.2.2.1]) ?_
  refine lv_dadd hx hb dN_grain_171 ((hv 2 (by decide)).2) ?_
  refine ct_dast (k := 11) (w1 := (wN ad cA (vf_upd (vf_upd (vf_upd b 9 (FP.dadd (b 9) (FP.dmul kg (geD 0 0)))) 10 (FP.dadd (b 10) (FP.dmul kg (geD 0 1)))) 11 (FP.dadd (b 11) (FP.dmul kg (geD 0 2)))) Tm Ac gt lt ts nw st hs ht dc pa ib ac)) hx hb hK hP hD hS 1 0 rfl rfl (by unfold vp_in; decide) (rfl) (rfl) dN_grain_172 (fun H locs hP hD hS => ?_)
  refine lv_aload_n hx hb dN_grain_173 rfl (lv_at hl 1 rfl) ?_
  refine va_get (D := (dC, dI)) (ci := 3) (v := .ref (ad 1)) (C := "MashEnzymesModel") (T := F_N) (N := 14) hx hb hts in_N hown hK hP 0 rfl rfl 0 (by decide) (hts _ tw_f_N_9) (fun _ h9 => h9) rfl dN_grain_174 ?_
  refine lv_bipush (v := 12) hx hb dN_grain_177 (by decide) ?_
  refine lv_aload_n hx hb dN_grain_179 rfl (lv_at hl 1 rfl) ?_
  refine va_get (D := (dC, dI)) (ci := 3) (v := .ref (ad 1)) (C := "MashEnzymesModel") (T := F_N) (N := 14) hx hb hts in_N hown hK hP 0 rfl rfl 0 (by decide) (hts _ tw_f_N_9) (fun _ h9 => h9) rfl dN_grain_180 ?_
  refine lv_bipush (v := 12) hx hb dN_grain_183 (by decide) ?_
  refine ct_dald (k := 12) (v := b 12) hx hb hK hP 1 0 rfl rfl (by unfold vp_in; decide) (rfl) (rfl) dN_grain_185 ?_
  refine lv_dload_n hx hb dN_grain_186 rfl (lv_at hl 0 rfl) ?_
  refine lv_ldc2d hx hb hown (hts _ tw_d_N_46) dN_grain_187 ?_
  refine lv_dmul hx hb dN_grain_190 (by rw [← ge_c0.2.2.2]; exact (hv 3 (by decide)).1) ?_
  refine ct_topd (y := FP.dmul kg (geD 0 3)) (by rw [ge_c0.2.2.2]) ?_
  refine lv_dadd hx hb dN_grain_191 ((hv 3 (by decide)).2) ?_
  refine ct_dast (k := 12) (w1 := (wN ad cA (vf_upd (vf_upd (vf_upd (vf_upd b 9 (FP.dadd (b 9) (FP.dmul kg (geD 0 0)))) 10 (FP.dadd (b 10) (FP.dmul kg (geD 0 1)))) 11 (FP.dadd (b 11) (FP.dmul kg (geD 0 2)))) 12 (FP.dadd (b 12) (FP.dmul kg (geD 0 3)))) Tm Ac gt lt ts nw st hs ht dc pa ib ac)) hx hb hK hP hD hS 1 0 rfl rfl (by unfold vp_in; decide) (rfl) (rfl) dN_grain_192 (fun H locs hP hD hS => ?_)
  refine lv_goto (tgt := 282) hx hb dN_grain_193 (by decide) ?_
  exact k ls _ _ (by rw [grE_4]; exact hP) (by rw [grE_4]; exact hD) hS (lv_sub hl [0, 1] rfl)
set_option maxHeartbeats 4000000 in
set_option maxRecDepth 100000 in
theorem gNg_2 {p : Program} {l : Launch} {e : Env} {R : Room} {s : State} {m : MethodId} {below : List Frame} {meth : Method} {c : Code} {A : Nat → Prop} {dC : Nat → ClassId} {dI : Nat → Nat → Nat} {ad : Nat → Nat} {cA : Nat → ClassId} {Q : State → Prop} {cells slots : Nat} {av : List Value} (b : Nat → UInt64) (kg : UInt64) (Tm Ac : UInt64) (gt lt : Int32) (ts : UInt64) (nw st : Int32) (hs : Nat → Int32) (ht : Nat → UInt64) (dc : Int32) (pa : Nat → UInt64) (ib : Nat → Int32) (ac : Nat → UInt64) (hx : p.tables.exec = Jvm.exec) (hb : c.code = bN_grain) (hts : ∀ x ∈ wT, x.before av.toArray s = true) (hown : s.vm.findClass "MashEnzymesModel" = some m.cls) (hK : va_K (dC, dI) cls (tN cA) s) (hv : ∀ i, i < 4 → vf_n64 (FP.dmul kg (geD 2 i)) ∧ vf_n64 (FP.dadd (b (9 + i)) (FP.dmul kg (geD 2 i)))) (k : ∀ (ls : Array Slot) (H : Heap) (locs : List Loc), va_P (dC, dI) cls (wN ad cA (grE kg 2 4 b) Tm Ac gt lt ts nw st hs ht dc pa ib ac) H → va_D A (wN ad cA (grE kg 2 4 b) Tm Ac gt lt ts nw st hs ht dc pa ib ac) → va_S A s.heap H locs → lv_has ls 6 [(1, .double kg), (0, .ref (ad 0))] → W p l e R s m av.toArray below meth c H locs cells slots Q (F0 m 282 ls [])) : ∀ (ls : Array Slot) (H : Heap) (locs : List Loc), va_P (dC, dI) cls (wN ad cA b Tm Ac gt lt ts nw st hs ht dc pa ib ac) H → va_D A (wN ad cA b Tm Ac gt lt ts nw st hs ht dc pa ib ac) → va_S A s.heap H locs → lv_has ls 6 [(1, .double kg), (0, .ref (ad 0))] → W p l e R s m av.toArray below meth c H locs cells slots Q (F0 m 202 ls []) := by
  intro ls H locs hP hD hS hl
  refine lv_aload_n hx hb dN_grain_202 rfl (lv_at hl 1 rfl) ?_
  refine va_get (D := (dC, dI)) (ci := 3) (v := .ref (ad 1)) (C := "MashEnzymesModel") (T := F_N) (N := 14) hx hb hts in_N hown hK hP 0 rfl rfl 0 (by decide) (hts _ tw_f_N_9) (fun _ h9 => h9) rfl dN_grain_203 ?_
  refine lv_bipush (v := 9) hx hb dN_grain_206 (by decide) ?_
  refine lv_aload_n hx hb dN_grain_208 rfl (lv_at hl 1 rfl) ?_
  refine va_get (D := (dC, dI)) (ci := 3) (v := .ref (ad 1)) (C := "MashEnzymesModel") (T := F_N) (N := 14) hx hb hts in_N hown hK hP 0 rfl rfl 0 (by decide) (hts _ tw_f_N_9) (fun _ h9 => h9) rfl dN_grain_209 ?_
  refine lv_bipush (v := 9) hx hb dN_grain_212 (by decide) ?_
  refine ct_dald (k := 9) (v := b 9) hx hb hK hP 1 0 rfl rfl (by unfold vp_in; decide) (rfl) (rfl) dN_grain_214 ?_
  refine lv_dload_n hx hb dN_grain_215 rfl (lv_at hl 0 rfl) ?_
  refine lv_ldc2d hx hb hown (hts _ tw_d_N_46) dN_grain_216 ?_
  refine lv_dmul hx hb dN_grain_219 (by rw [← ge_c2.1]; exact (hv 0 (by decide)).1) ?_
  refine ct_topd (y := FP.dmul kg (geD 2 0)) (by rw [ge_c2.1]) ?_
  refine lv_dadd hx hb dN_grain_220 ((hv 0 (by decide)).2) ?_
  refine ct_dast (k := 9) (w1 := (wN ad cA (vf_upd b 9 (FP.dadd (b 9) (FP.dmul kg (geD 2 0)))) Tm Ac gt lt ts nw st hs ht dc pa ib ac)) hx hb hK hP hD hS 1 0 rfl rfl (by unfold vp_in; decide) (rfl) (rfl) dN_grain_221 (fun H locs hP hD hS => ?_)
  refine lv_aload_n hx hb dN_grain_222 rfl (lv_at hl 1 rfl) ?_
  refine va_get (D := (dC, dI)) (ci := 3) (v := .ref (ad 1)) (C := "MashEnzymesModel") (T := F_N) (N := 14) hx hb hts in_N hown hK hP 0 rfl rfl 0 (by decide) (hts _ tw_f_N_9) (fun _ h9 => h9) rfl dN_grain_223 ?_
  refine lv_bipush (v := 10) hx hb dN_grain_226 (by decide) ?_
  refine lv_aload_n hx hb dN_grain_228 rfl (lv_at hl 1 rfl) ?_
  refine va_get (D := (dC, dI)) (ci := 3) (v := .ref (ad 1)) (C := "MashEnzymesModel") (T := F_N) (N := 14) hx hb hts in_N hown hK hP 0 rfl rfl 0 (by decide) (hts _ tw_f_N_9) (fun _ h9 => h9) rfl dN_grain_229 ?_
  refine lv_bipush (v := 10) hx hb dN_grain_232 (by decide) ?_
  refine ct_dald (k := 10) (v := b 10) hx hb hK hP 1 0 rfl rfl (by unfold vp_in; decide) (rfl) (rfl) dN_grain_234 ?_
  refine lv_dload_n hx hb dN_grain_235 rfl (lv_at hl 0 rfl) ?_
  refine lv_ldc2d hx hb hown (hts _ tw_d_N_48) dN_grain_236 ?_
  refine lv_dmul hx hb dN_grain_239 (by rw [← ge_c2.2.1]; exact (hv 1 (by decide)).1) ?_
  refine ct_topd (y := FP.dmul kg (geD 2 1)) (by rw [ge_c2.2.1]) ?_
  refine lv_dadd hx hb dN_grain_240 ((hv 1 (by decide)).2) ?_
  refine ct_dast (k := 10) (w1 := (wN ad cA (vf_upd (vf_upd b 9 (FP.dadd (b 9) (FP.dmul kg (geD 2 0)))) 10 (FP.dadd (b 10) (FP.dmul kg (geD 2 1)))) Tm Ac gt lt ts nw st hs ht dc pa ib ac)) hx hb hK hP hD hS 1 0 rfl rfl (by unfold vp_in; decide) (rfl) (rfl) dN_grain_241 (fun H locs hP hD hS => ?_)
  refine lv_aload_n hx hb dN_grain_242 rfl (lv_at hl 1 rfl) ?_
  refine va_get (D := (dC, dI)) (ci := 3) (v := .ref (ad 1)) (C := "MashEnzymesModel") (T := F_N) (N := 14) hx hb hts in_N hown hK hP 0 rfl rfl 0 (by decide) (hts _ tw_f_N_9) (fun _ h9 => h9) rfl dN_grain_243 ?_
  refine lv_bipush (v := 11) hx hb dN_grain_246 (by decide) ?_
  refine lv_aload_n hx hb dN_grain_248 rfl (lv_at hl 1 rfl) ?_
  refine va_get (D := (dC, dI)) (ci := 3) (v := .ref (ad 1)) (C := "MashEnzymesModel") (T := F_N) (N := 14) hx hb hts in_N hown hK hP 0 rfl rfl 0 (by decide) (hts _ tw_f_N_9) (fun _ h9 => h9) rfl dN_grain_249 ?_
  refine lv_bipush (v := 11) hx hb dN_grain_252 (by decide) ?_
  refine ct_dald (k := 11) (v := b 11) hx hb hK hP 1 0 rfl rfl (by unfold vp_in; decide) (rfl) (rfl) dN_grain_254 ?_
  refine lv_dload_n hx hb dN_grain_255 rfl (lv_at hl 0 rfl) ?_
  refine lv_ldc2d hx hb hown (hts _ tw_d_N_36) dN_grain_256 ?_
  refine lv_dmul hx hb dN_grain_259 (by rw [← ge_c2.2.2.1]; exact (hv 2 (by decide)).1) ?_
  refine ct_topd (y := FP.dmul kg (geD 2 2)) (by rw [ge_c2.2.2.1]) ?_
  refine lv_dadd hx hb dN_grain_260 ((hv 2 (by decide)).2) ?_
  refine ct_dast (k := 11) (w1 := (wN ad cA (vf_upd (vf_upd (vf_upd b 9 (FP.dadd (b 9) (FP.dmul kg (geD 2 0)))) 10 (FP.dadd (b 10) (FP.dmul kg (geD 2 1)))) 11 (FP.dadd (b 11) (FP.dmul kg (geD 2 2)))) Tm Ac gt lt ts nw st hs ht dc pa ib ac)) hx hb hK hP hD hS 1 0 rfl rfl (by unfold vp_in; decide) (rfl) (rfl) dN_grain_261 (fun H locs hP hD hS => ?_)
  refine lv_aload_n hx hb dN_grain_262 rfl (lv_at hl 1 rfl) ?_
  refine va_get (D := (dC, dI)) (ci := 3) (v := .ref (ad 1)) (C := "MashEnzymesModel") (T := F_N) (N := 14) hx hb hts in_N hown hK hP 0 rfl rfl 0 (by decide) (hts _ tw_f_N_9) (fun _ h9 => h9) rfl dN_grain_263 ?_
  refine lv_bipush (v := 12) hx hb dN_grain_266 (by decide) ?_
  refine lv_aload_n hx hb dN_grain_268 rfl (lv_at hl 1 rfl) ?_
  refine va_get (D := (dC, dI)) (ci := 3) (v := .ref (ad 1)) (C := "MashEnzymesModel") (T := F_N) (N := 14) hx hb hts in_N hown hK hP 0 rfl rfl 0 (by decide) (hts _ tw_f_N_9) (fun _ h9 => h9) rfl dN_grain_269 ?_
  refine lv_bipush (v := 12) hx hb dN_grain_272 (by decide) ?_
  refine ct_dald (k := 12) (v := b 12) hx hb hK hP 1 0 rfl rfl (by unfold vp_in; decide) (rfl) (rfl) dN_grain_274 ?_
  refine lv_dload_n hx hb dN_grain_275 rfl (lv_at hl 0 rfl) ?_
  refine lv_ldc2d hx hb hown (hts _ tw_d_N_44) dN_grain_276 ?_
  refine lv_dmul hx hb dN_grain_279 (by rw [← ge_c2.2.2.2]; exact (hv 3 (by decide)).1) ?_
  refine ct_topd (y := FP.dmul kg (geD 2 3)) (by rw [ge_c2.2.2.2]) ?_
  refine lv_dadd hx hb dN_grain_280 ((hv 3 (by decide)).2) ?_
  refine ct_dast (k := 12) (w1 := (wN ad cA (vf_upd (vf_upd (vf_upd (vf_upd b 9 (FP.dadd (b 9) (FP.dmul kg (geD 2 0)))) 10 (FP.dadd (b 10) (FP.dmul kg (geD 2 1)))) 11 (FP.dadd (b 11) (FP.dmul kg (geD 2 2)))) 12 (FP.dadd (b 12) (FP.dmul kg (geD 2 3)))) Tm Ac gt lt ts nw st hs ht dc pa ib ac)) hx hb hK hP hD hS 1 0 rfl rfl (by unfold vp_in; decide) (rfl) (rfl) dN_grain_281 (fun H locs hP hD hS => ?_)
  exact k ls _ _ (by rw [grE_4]; exact hP) (by rw [grE_4]; exact hD) hS (lv_sub hl [0, 1] rfl)
set_option maxHeartbeats 4000000 in
set_option maxRecDepth 100000 in
/-- grain -/
theorem cN_grain (l : Launch) (dC : Nat → ClassId) (dI : Nat → Nat → Nat) (tt : Nat → Nat) (sz : Nat) (ad : Nat → Nat) (cA : Nat → ClassId) (a : Nat → UInt64) (Tm Ac : UInt64) (gt lt : Int32) (ts : UInt64) (nw st : Int32) (hs : Nat → Int32) (ht : Nat → UInt64) (dc : Int32) (pa : Nat → UInt64) (ib : Nat → Int32) (ac : Nat → UInt64) (kg st9 : UInt64) (kind : Int32) (hns : nNo st9) (hok : grOK kg st9 kind → okG kg st9 kind.toNatClampNeg a ts) (hz1 : kind.toNatClampNeg = 1 → ∀ i, i < 4 → FP.dadd (a (9 + i)) (FP.dmul kg (geD 1 i)) = a (9 + i)) : Ct l dC dI tt yN_grain bN_grain 6 (some .boolean) ({ frames := 0, cells := 0, slots := 0, locals := 0 }) (tN cA) [.ref (ad 0), .double kg, .double st9, .int kind] (wN ad cA a Tm Ac gt lt ts nw st hs ht dc pa ib ac) sz (fun A => ctQc dC dI (tN cA) (grOK kg st9 kind) 1 (wN ad cA (grA kg st9 kind.toNatClampNeg a) Tm Ac 1 lt (FP.dadd ts (FP.dmul kg st9)) nw st hs ht dc pa ib ac) 0 (wN ad cA a Tm Ac gt lt ts nw st hs ht dc pa ib ac) A) := by
  refine ct_of (by decide) (Nat.le_of_ble_eq_true rfl) ?_
  intro p e s m below meth c A ls hx hb hr hts hown hml hlocks hnm hA hS hP hK hD hT hl
  have hl : lv_has ls 6 [(0, .ref (ad 0)), (1, .double kg), (3, .double st9), (5, .int kind)] := hl
  refine lv_dload_n hx hb dN_grain_0 rfl (lv_at hl 1 rfl) ?_
  refine lv_dconst0 hx hb dN_grain_1 ?_
  refine ct_topd (y := 0) rfl ?_
  refine lv_dcmp hx hb dN_grain_2 ?_
  refine lv_if_le (tgt := 37) hx hb dN_grain_3 (by decide) (fun c_1 => ?_) (fun c_1 => ?_)
  · refine lv_iconst (v := 0) hx hb dN_grain_37 (by decide) ?_
    exact ct_ret0 hx hb hr rfl hlocks hP hK hD hS (fun h => (cv_l_le _).mp c_1 h.1) rfl dN_grain_38
  · have h_kg0 := (Classical.not_not.mp fun h => c_1 ((cv_l_le _).mpr h) : FP.dcmp kg 0 = some .gt)
    refine lv_dload_n hx hb dN_grain_6 rfl (lv_at hl 1 rfl) ?_
    refine lv_ldc2d hx hb hown (hts _ tw_d_N_30) dN_grain_7 ?_
    refine lv_dcmp hx hb dN_grain_10 ?_
    refine lv_if_gt (tgt := 37) hx hb dN_grain_11 (by decide) (fun c_2 => ?_) (fun c_2 => ?_)
    · refine lv_iconst (v := 0) hx hb dN_grain_37 (by decide) ?_
      exact ct_ret0 hx hb hr rfl hlocks hP hK hD hS (fun h => h.2.1 ((cv_l_gt _).mp c_2)) rfl dN_grain_38
    · have h_kg1 := (fun h => c_2 ((cv_l_gt _).mpr h) : ¬ FP.dcmp kg 4652007308841189376 = some .gt)
      refine lv_dload_n hx hb dN_grain_14 rfl (lv_at hl 2 rfl) ?_
      refine lv_dconst0 hx hb dN_grain_15 ?_
      refine ct_topd (y := 0) rfl ?_
      refine lv_dcmp hx hb dN_grain_16 ?_
      refine lv_if_lt (tgt := 37) hx hb dN_grain_17 (by decide) (fun c_3 => ?_) (fun c_3 => ?_)
      · refine lv_iconst (v := 0) hx hb dN_grain_37 (by decide) ?_
        exact ct_ret0 hx hb hr rfl hlocks hP hK hD hS (fun h => h.2.2.1 ((cvn_l (hns _ (by decide))).mp c_3)) rfl dN_grain_38
      · have h_st0 := (fun h => c_3 ((cvn_l (hns _ (by decide))).mpr h) : ¬ FP.dcmp st9 0 = some .lt)
        refine lv_dload_n hx hb dN_grain_20 rfl (lv_at hl 2 rfl) ?_
        refine lv_dconst1 hx hb dN_grain_21 ?_
        refine ct_topd (y := 4607182418800017408) rfl ?_
        refine lv_dcmp hx hb dN_grain_22 ?_
        refine lv_if_gt (tgt := 37) hx hb dN_grain_23 (by decide) (fun c_4 => ?_) (fun c_4 => ?_)
        · refine lv_iconst (v := 0) hx hb dN_grain_37 (by decide) ?_
          exact ct_ret0 hx hb hr rfl hlocks hP hK hD hS (fun h => h.2.2.2.1 ((cv_l_gt _).mp c_4)) rfl dN_grain_38
        · have h_st1 := (fun h => c_4 ((cv_l_gt _).mpr h) : ¬ FP.dcmp st9 4607182418800017408 = some .gt)
          refine lv_iload hx hb dN_grain_26 (lv_at hl 3 rfl) ?_
          refine lv_if_lt (tgt := 37) hx hb dN_grain_28 (by decide) (fun c_5 => ?_) (fun c_5 => ?_)
          · refine lv_iconst (v := 0) hx hb dN_grain_37 (by decide) ?_
            exact ct_ret0 hx hb hr rfl hlocks hP hK hD hS (fun h => Int32.not_lt.mpr h.2.2.2.2.1 c_5) rfl dN_grain_38
          · have h_k0 := (c_5 : ¬ kind < 0)
            refine lv_iload hx hb dN_grain_31 (lv_at hl 3 rfl) ?_
            refine lv_iconst (v := 2) hx hb dN_grain_33 (by decide) ?_
            refine lv_icmp_le (tgt := 39) hx hb dN_grain_34 (by decide) (fun c_6 => ?_) (fun c_6 => ?_)
            · have h_k1 := (lt2_3 c_6 : kind < 3)
              have hz : grOK kg st9 kind := ⟨h_kg0, h_kg1, h_st0, h_st1, Int32.not_lt.mp h_k0, h_k1⟩
              obtain ⟨k, hk, rfl⟩ := nI_of (x := kind) h_k0
              have hk3 : k < 3 := (nI_ltI hk (by decide)).mp h_k1
              have hok9 := hok hz
              rw [nI_clamp hk] at hok9
              rw [nI_clamp hk]
              rcases (show k = 0 ∨ k = 1 ∨ k = 2 by omega) with rfl | rfl | rfl
              · refine lv_aload_n hx hb dN_grain_39 rfl (lv_at hl 0 rfl) ?_
                refine va_get (D := (dC, dI)) (ci := 3) (v := .ref (ad 1)) (C := "MashEnzymesModel") (T := F_N) (N := 14) hx hb hts in_N hown hK hP 0 rfl rfl 0 (by decide) (hts _ tw_f_N_9) (fun _ h9 => h9) rfl dN_grain_40 ?_
                refine lv_iconst (v := 1) hx hb dN_grain_43 (by decide) ?_
                refine lv_aload_n hx hb dN_grain_44 rfl (lv_at hl 0 rfl) ?_
                refine va_get (D := (dC, dI)) (ci := 3) (v := .ref (ad 1)) (C := "MashEnzymesModel") (T := F_N) (N := 14) hx hb hts in_N hown hK hP 0 rfl rfl 0 (by decide) (hts _ tw_f_N_9) (fun _ h9 => h9) rfl dN_grain_45 ?_
                refine lv_iconst (v := 1) hx hb dN_grain_48 (by decide) ?_
                refine ct_dald (k := 1) (v := a 1) hx hb hK hP 1 0 rfl rfl (by unfold vp_in; decide) (rfl) (rfl) dN_grain_49 ?_
                refine lv_dload_n hx hb dN_grain_50 rfl (lv_at hl 1 rfl) ?_
                refine lv_dload_n hx hb dN_grain_51 rfl (lv_at hl 2 rfl) ?_
                refine lv_dmul hx hb dN_grain_52 (hok9.1) ?_
                refine lv_dadd hx hb dN_grain_53 (hok9.2.1) ?_
                refine ct_dast (k := 1) (w1 := (wN ad cA (vf_upd a 1 (FP.dadd (a 1) (FP.dmul kg st9))) Tm Ac gt lt ts nw st hs ht dc pa ib ac)) hx hb hK hP hD hS 1 0 rfl rfl (by unfold vp_in; decide) (rfl) (rfl) dN_grain_54 (fun H locs hP hD hS => ?_)
                refine lv_aload_n hx hb dN_grain_55 rfl (lv_at hl 0 rfl) ?_
                refine lv_aload_n hx hb dN_grain_56 rfl (lv_at hl 0 rfl) ?_
                refine va_get (D := (dC, dI)) (ci := 3) (v := .double ts) (C := "MashEnzymesModel") (T := F_N) (N := 14) hx hb hts in_N hown hK hP 0 rfl rfl 5 (by decide) (hts _ tw_f_N_32) (fun _ h9 => h9) rfl dN_grain_57 ?_
                refine lv_dload_n hx hb dN_grain_60 rfl (lv_at hl 1 rfl) ?_
                refine lv_dload_n hx hb dN_grain_61 rfl (lv_at hl 2 rfl) ?_
                refine lv_dmul hx hb dN_grain_62 (hok9.1) ?_
                refine lv_dadd hx hb dN_grain_63 (hok9.2.2.1) ?_
                refine va_put (D := (dC, dI)) (ci := 3) (v := .double (FP.dadd ts (FP.dmul kg st9))) (ty := .double) (C := "MashEnzymesModel") (T := F_N) (N := 14) hx hb hts in_N t_N t_N_ok n_N hown hK hP hD hS 0 rfl rfl 5 (by decide) (hts _ tw_f_N_32) (fun _ h9 => h9) rfl (by decide +kernel) rfl rfl (Nat.le_of_ble_eq_true rfl) dN_grain_64 (fun H locs hP hD hS => ?_)
                have hP : va_P (dC, dI) cls (wN ad cA (vf_upd a 1 (FP.dadd (a 1) (FP.dmul kg st9))) Tm Ac gt lt (FP.dadd ts (FP.dmul kg st9)) nw st hs ht dc pa ib ac) H := hP
                have hD : va_D A (wN ad cA (vf_upd a 1 (FP.dadd (a 1) (FP.dmul kg st9))) Tm Ac gt lt (FP.dadd ts (FP.dmul kg st9)) nw st hs ht dc pa ib ac) := hD
                refine lv_aload_n hx hb dN_grain_67 rfl (lv_at hl 0 rfl) ?_
                refine va_get (D := (dC, dI)) (ci := 3) (v := .ref (ad 1)) (C := "MashEnzymesModel") (T := F_N) (N := 14) hx hb hts in_N hown hK hP 0 rfl rfl 0 (by decide) (hts _ tw_f_N_9) (fun _ h9 => h9) rfl dN_grain_68 ?_
                refine lv_bipush (v := 8) hx hb dN_grain_71 (by decide) ?_
                refine lv_aload_n hx hb dN_grain_73 rfl (lv_at hl 0 rfl) ?_
                refine va_get (D := (dC, dI)) (ci := 3) (v := .ref (ad 1)) (C := "MashEnzymesModel") (T := F_N) (N := 14) hx hb hts in_N hown hK hP 0 rfl rfl 0 (by decide) (hts _ tw_f_N_9) (fun _ h9 => h9) rfl dN_grain_74 ?_
                refine lv_bipush (v := 8) hx hb dN_grain_77 (by decide) ?_
                refine ct_dald (k := 8) (v := a 8) hx hb hK hP 1 0 rfl rfl (by unfold vp_in; decide) (rfl) (rfl) dN_grain_79 ?_
                refine lv_dload_n hx hb dN_grain_80 rfl (lv_at hl 1 rfl) ?_
                refine lv_iload hx hb dN_grain_81 (lv_at hl 3 rfl) ?_
                refine lv_if_ne (tgt := 92) hx hb dN_grain_83 (by decide) (fun c_7 => ?_) (fun c_7 => ?_)
                · exact (absurd rfl c_7)
                · refine lv_ldc2d hx hb hown (hts _ tw_d_N_36) dN_grain_86 ?_
                  refine lv_goto (tgt := 107) hx hb dN_grain_89 (by decide) ?_
                  refine lv_dmul hx hb dN_grain_107 (by rw [← gp_c.1]; exact hok9.2.2.2.1) ?_
                  refine ct_topd (y := FP.dmul kg (gpD 0)) (by rw [gp_c.1]) ?_
                  refine lv_dadd hx hb dN_grain_108 (hok9.2.2.2.2.1) ?_
                  refine ct_dast (k := 8) (w1 := (wN ad cA (gr2 kg st9 0 a) Tm Ac gt lt (FP.dadd ts (FP.dmul kg st9)) nw st hs ht dc pa ib ac)) hx hb hK hP hD hS 1 0 rfl rfl (by unfold vp_in; decide) (rfl) (rfl) dN_grain_109 (fun H locs hP hD hS => ?_)
                  refine lv_iload hx hb dN_grain_110 (lv_at hl 3 rfl) ?_
                  refine lv_if_ne (tgt := 196) hx hb dN_grain_112 (by decide) (fun c_8 => ?_) (fun c_8 => ?_)
                  · exact (absurd rfl c_8)
                  · refine gNg_0 (l := l) (e := e) (below := below) (gr2 kg st9 0 a) kg Tm Ac gt lt (FP.dadd ts (FP.dmul kg st9)) nw st hs ht dc pa ib ac hx hb hts hown hK (fun i hi => by rw [gr2_at]; exact hok9.2.2.2.2.2 i hi) (fun ls H locs hP hD hS hl => ?_) ls _ _ hP hD hS (lv_sub hl [1, 0] rfl)
                    refine lv_aload_n hx hb dN_grain_282 rfl (lv_at hl 1 rfl) ?_
                    refine lv_iconst (v := 1) hx hb dN_grain_283 (by decide) ?_
                    refine va_put (D := (dC, dI)) (ci := 3) (v := .int 1) (ty := .boolean) (C := "MashEnzymesModel") (T := F_N) (N := 14) hx hb hts in_N t_N t_N_ok n_N hown hK hP hD hS 0 rfl rfl 3 (by decide) (hts _ tw_f_N_50) (fun _ h9 => h9) rfl (by decide +kernel) rfl rfl (Nat.le_of_ble_eq_true rfl) dN_grain_284 (fun H locs hP hD hS => ?_)
                    have hP : va_P (dC, dI) cls (wN ad cA (grE kg 0 4 (gr2 kg st9 0 a)) Tm Ac 1 lt (FP.dadd ts (FP.dmul kg st9)) nw st hs ht dc pa ib ac) H := hP
                    have hD : va_D A (wN ad cA (grE kg 0 4 (gr2 kg st9 0 a)) Tm Ac 1 lt (FP.dadd ts (FP.dmul kg st9)) nw st hs ht dc pa ib ac) := hD
                    refine lv_iconst (v := 1) hx hb dN_grain_287 (by decide) ?_
                    exact ct_ret1 hx hb hr rfl hlocks hP hK hD hS hz rfl dN_grain_288
              · refine lv_aload_n hx hb dN_grain_39 rfl (lv_at hl 0 rfl) ?_
                refine va_get (D := (dC, dI)) (ci := 3) (v := .ref (ad 1)) (C := "MashEnzymesModel") (T := F_N) (N := 14) hx hb hts in_N hown hK hP 0 rfl rfl 0 (by decide) (hts _ tw_f_N_9) (fun _ h9 => h9) rfl dN_grain_40 ?_
                refine lv_iconst (v := 1) hx hb dN_grain_43 (by decide) ?_
                refine lv_aload_n hx hb dN_grain_44 rfl (lv_at hl 0 rfl) ?_
                refine va_get (D := (dC, dI)) (ci := 3) (v := .ref (ad 1)) (C := "MashEnzymesModel") (T := F_N) (N := 14) hx hb hts in_N hown hK hP 0 rfl rfl 0 (by decide) (hts _ tw_f_N_9) (fun _ h9 => h9) rfl dN_grain_45 ?_
                refine lv_iconst (v := 1) hx hb dN_grain_48 (by decide) ?_
                refine ct_dald (k := 1) (v := a 1) hx hb hK hP 1 0 rfl rfl (by unfold vp_in; decide) (rfl) (rfl) dN_grain_49 ?_
                refine lv_dload_n hx hb dN_grain_50 rfl (lv_at hl 1 rfl) ?_
                refine lv_dload_n hx hb dN_grain_51 rfl (lv_at hl 2 rfl) ?_
                refine lv_dmul hx hb dN_grain_52 (hok9.1) ?_
                refine lv_dadd hx hb dN_grain_53 (hok9.2.1) ?_
                refine ct_dast (k := 1) (w1 := (wN ad cA (vf_upd a 1 (FP.dadd (a 1) (FP.dmul kg st9))) Tm Ac gt lt ts nw st hs ht dc pa ib ac)) hx hb hK hP hD hS 1 0 rfl rfl (by unfold vp_in; decide) (rfl) (rfl) dN_grain_54 (fun H locs hP hD hS => ?_)
                refine lv_aload_n hx hb dN_grain_55 rfl (lv_at hl 0 rfl) ?_
                refine lv_aload_n hx hb dN_grain_56 rfl (lv_at hl 0 rfl) ?_
                refine va_get (D := (dC, dI)) (ci := 3) (v := .double ts) (C := "MashEnzymesModel") (T := F_N) (N := 14) hx hb hts in_N hown hK hP 0 rfl rfl 5 (by decide) (hts _ tw_f_N_32) (fun _ h9 => h9) rfl dN_grain_57 ?_
                refine lv_dload_n hx hb dN_grain_60 rfl (lv_at hl 1 rfl) ?_
                refine lv_dload_n hx hb dN_grain_61 rfl (lv_at hl 2 rfl) ?_
                refine lv_dmul hx hb dN_grain_62 (hok9.1) ?_
                refine lv_dadd hx hb dN_grain_63 (hok9.2.2.1) ?_
                refine va_put (D := (dC, dI)) (ci := 3) (v := .double (FP.dadd ts (FP.dmul kg st9))) (ty := .double) (C := "MashEnzymesModel") (T := F_N) (N := 14) hx hb hts in_N t_N t_N_ok n_N hown hK hP hD hS 0 rfl rfl 5 (by decide) (hts _ tw_f_N_32) (fun _ h9 => h9) rfl (by decide +kernel) rfl rfl (Nat.le_of_ble_eq_true rfl) dN_grain_64 (fun H locs hP hD hS => ?_)
                have hP : va_P (dC, dI) cls (wN ad cA (vf_upd a 1 (FP.dadd (a 1) (FP.dmul kg st9))) Tm Ac gt lt (FP.dadd ts (FP.dmul kg st9)) nw st hs ht dc pa ib ac) H := hP
                have hD : va_D A (wN ad cA (vf_upd a 1 (FP.dadd (a 1) (FP.dmul kg st9))) Tm Ac gt lt (FP.dadd ts (FP.dmul kg st9)) nw st hs ht dc pa ib ac) := hD
                refine lv_aload_n hx hb dN_grain_67 rfl (lv_at hl 0 rfl) ?_
                refine va_get (D := (dC, dI)) (ci := 3) (v := .ref (ad 1)) (C := "MashEnzymesModel") (T := F_N) (N := 14) hx hb hts in_N hown hK hP 0 rfl rfl 0 (by decide) (hts _ tw_f_N_9) (fun _ h9 => h9) rfl dN_grain_68 ?_
                refine lv_bipush (v := 8) hx hb dN_grain_71 (by decide) ?_
                refine lv_aload_n hx hb dN_grain_73 rfl (lv_at hl 0 rfl) ?_
                refine va_get (D := (dC, dI)) (ci := 3) (v := .ref (ad 1)) (C := "MashEnzymesModel") (T := F_N) (N := 14) hx hb hts in_N hown hK hP 0 rfl rfl 0 (by decide) (hts _ tw_f_N_9) (fun _ h9 => h9) rfl dN_grain_74 ?_
                refine lv_bipush (v := 8) hx hb dN_grain_77 (by decide) ?_
                refine ct_dald (k := 8) (v := a 8) hx hb hK hP 1 0 rfl rfl (by unfold vp_in; decide) (rfl) (rfl) dN_grain_79 ?_
                refine lv_dload_n hx hb dN_grain_80 rfl (lv_at hl 1 rfl) ?_
                refine lv_iload hx hb dN_grain_81 (lv_at hl 3 rfl) ?_
                refine lv_if_ne (tgt := 92) hx hb dN_grain_83 (by decide) (fun c_9 => ?_) (fun c_9 => ?_)
                · refine lv_iload hx hb dN_grain_92 (lv_at hl 3 rfl) ?_
                  refine lv_iconst (v := 1) hx hb dN_grain_94 (by decide) ?_
                  refine lv_icmp_ne (tgt := 104) hx hb dN_grain_95 (by decide) (fun c_10 => ?_) (fun c_10 => ?_)
                  · exact (absurd rfl c_10)
                  · refine lv_ldc2d hx hb hown (hts _ tw_d_N_38) dN_grain_98 ?_
                    refine lv_goto (tgt := 107) hx hb dN_grain_101 (by decide) ?_
                    refine lv_dmul hx hb dN_grain_107 (by rw [← gp_c.2.1]; exact hok9.2.2.2.1) ?_
                    refine ct_topd (y := FP.dmul kg (gpD 1)) (by rw [gp_c.2.1]) ?_
                    refine lv_dadd hx hb dN_grain_108 (hok9.2.2.2.2.1) ?_
                    refine ct_dast (k := 8) (w1 := (wN ad cA (gr2 kg st9 1 a) Tm Ac gt lt (FP.dadd ts (FP.dmul kg st9)) nw st hs ht dc pa ib ac)) hx hb hK hP hD hS 1 0 rfl rfl (by unfold vp_in; decide) (rfl) (rfl) dN_grain_109 (fun H locs hP hD hS => ?_)
                    refine lv_iload hx hb dN_grain_110 (lv_at hl 3 rfl) ?_
                    refine lv_if_ne (tgt := 196) hx hb dN_grain_112 (by decide) (fun c_11 => ?_) (fun c_11 => ?_)
                    · refine lv_iload hx hb dN_grain_196 (lv_at hl 3 rfl) ?_
                      refine lv_iconst (v := 2) hx hb dN_grain_198 (by decide) ?_
                      refine lv_icmp_ne (tgt := 282) hx hb dN_grain_199 (by decide) (fun c_12 => ?_) (fun c_12 => ?_)
                      · have hgi := grE_id (b := gr2 kg st9 1 a) (k := 1) (kg := kg) (fun i hi => by rw [gr2_at]; exact hz1 (nI_clamp (by decide)) i hi)
                        refine lv_aload_n hx hb dN_grain_282 rfl (lv_at hl 0 rfl) ?_
                        refine lv_iconst (v := 1) hx hb dN_grain_283 (by decide) ?_
                        refine va_put (D := (dC, dI)) (ci := 3) (v := .int 1) (ty := .boolean) (C := "MashEnzymesModel") (T := F_N) (N := 14) hx hb hts in_N t_N t_N_ok n_N hown hK hP hD hS 0 rfl rfl 3 (by decide) (hts _ tw_f_N_50) (fun _ h9 => h9) rfl (by decide +kernel) rfl rfl (Nat.le_of_ble_eq_true rfl) dN_grain_284 (fun H locs hP hD hS => ?_)
                        have hP : va_P (dC, dI) cls (wN ad cA (gr2 kg st9 1 a) Tm Ac 1 lt (FP.dadd ts (FP.dmul kg st9)) nw st hs ht dc pa ib ac) H := hP
                        have hD : va_D A (wN ad cA (gr2 kg st9 1 a) Tm Ac 1 lt (FP.dadd ts (FP.dmul kg st9)) nw st hs ht dc pa ib ac) := hD
                        refine lv_iconst (v := 1) hx hb dN_grain_287 (by decide) ?_
                        exact ct_ret1 hx hb hr rfl hlocks (by unfold grA; rw [hgi]; exact hP) hK (by unfold grA; rw [hgi]; exact hD) hS hz rfl dN_grain_288
                      · exact (absurd c_12 (by decide))
                    · exact (absurd c_11 (by decide))
                · exact (absurd c_9 (by decide))
              · refine lv_aload_n hx hb dN_grain_39 rfl (lv_at hl 0 rfl) ?_
                refine va_get (D := (dC, dI)) (ci := 3) (v := .ref (ad 1)) (C := "MashEnzymesModel") (T := F_N) (N := 14) hx hb hts in_N hown hK hP 0 rfl rfl 0 (by decide) (hts _ tw_f_N_9) (fun _ h9 => h9) rfl dN_grain_40 ?_
                refine lv_iconst (v := 1) hx hb dN_grain_43 (by decide) ?_
                refine lv_aload_n hx hb dN_grain_44 rfl (lv_at hl 0 rfl) ?_
                refine va_get (D := (dC, dI)) (ci := 3) (v := .ref (ad 1)) (C := "MashEnzymesModel") (T := F_N) (N := 14) hx hb hts in_N hown hK hP 0 rfl rfl 0 (by decide) (hts _ tw_f_N_9) (fun _ h9 => h9) rfl dN_grain_45 ?_
                refine lv_iconst (v := 1) hx hb dN_grain_48 (by decide) ?_
                refine ct_dald (k := 1) (v := a 1) hx hb hK hP 1 0 rfl rfl (by unfold vp_in; decide) (rfl) (rfl) dN_grain_49 ?_
                refine lv_dload_n hx hb dN_grain_50 rfl (lv_at hl 1 rfl) ?_
                refine lv_dload_n hx hb dN_grain_51 rfl (lv_at hl 2 rfl) ?_
                refine lv_dmul hx hb dN_grain_52 (hok9.1) ?_
                refine lv_dadd hx hb dN_grain_53 (hok9.2.1) ?_
                refine ct_dast (k := 1) (w1 := (wN ad cA (vf_upd a 1 (FP.dadd (a 1) (FP.dmul kg st9))) Tm Ac gt lt ts nw st hs ht dc pa ib ac)) hx hb hK hP hD hS 1 0 rfl rfl (by unfold vp_in; decide) (rfl) (rfl) dN_grain_54 (fun H locs hP hD hS => ?_)
                refine lv_aload_n hx hb dN_grain_55 rfl (lv_at hl 0 rfl) ?_
                refine lv_aload_n hx hb dN_grain_56 rfl (lv_at hl 0 rfl) ?_
                refine va_get (D := (dC, dI)) (ci := 3) (v := .double ts) (C := "MashEnzymesModel") (T := F_N) (N := 14) hx hb hts in_N hown hK hP 0 rfl rfl 5 (by decide) (hts _ tw_f_N_32) (fun _ h9 => h9) rfl dN_grain_57 ?_
                refine lv_dload_n hx hb dN_grain_60 rfl (lv_at hl 1 rfl) ?_
                refine lv_dload_n hx hb dN_grain_61 rfl (lv_at hl 2 rfl) ?_
                refine lv_dmul hx hb dN_grain_62 (hok9.1) ?_
                refine lv_dadd hx hb dN_grain_63 (hok9.2.2.1) ?_
                refine va_put (D := (dC, dI)) (ci := 3) (v := .double (FP.dadd ts (FP.dmul kg st9))) (ty := .double) (C := "MashEnzymesModel") (T := F_N) (N := 14) hx hb hts in_N t_N t_N_ok n_N hown hK hP hD hS 0 rfl rfl 5 (by decide) (hts _ tw_f_N_32) (fun _ h9 => h9) rfl (by decide +kernel) rfl rfl (Nat.le_of_ble_eq_true rfl) dN_grain_64 (fun H locs hP hD hS => ?_)
                have hP : va_P (dC, dI) cls (wN ad cA (vf_upd a 1 (FP.dadd (a 1) (FP.dmul kg st9))) Tm Ac gt lt (FP.dadd ts (FP.dmul kg st9)) nw st hs ht dc pa ib ac) H := hP
                have hD : va_D A (wN ad cA (vf_upd a 1 (FP.dadd (a 1) (FP.dmul kg st9))) Tm Ac gt lt (FP.dadd ts (FP.dmul kg st9)) nw st hs ht dc pa ib ac) := hD
                refine lv_aload_n hx hb dN_grain_67 rfl (lv_at hl 0 rfl) ?_
                refine va_get (D := (dC, dI)) (ci := 3) (v := .ref (ad 1)) (C := "MashEnzymesModel") (T := F_N) (N := 14) hx hb hts in_N hown hK hP 0 rfl rfl 0 (by decide) (hts _ tw_f_N_9) (fun _ h9 => h9) rfl dN_grain_68 ?_
                refine lv_bipush (v := 8) hx hb dN_grain_71 (by decide) ?_
                refine lv_aload_n hx hb dN_grain_73 rfl (lv_at hl 0 rfl) ?_
                refine va_get (D := (dC, dI)) (ci := 3) (v := .ref (ad 1)) (C := "MashEnzymesModel") (T := F_N) (N := 14) hx hb hts in_N hown hK hP 0 rfl rfl 0 (by decide) (hts _ tw_f_N_9) (fun _ h9 => h9) rfl dN_grain_74 ?_
                refine lv_bipush (v := 8) hx hb dN_grain_77 (by decide) ?_
                refine ct_dald (k := 8) (v := a 8) hx hb hK hP 1 0 rfl rfl (by unfold vp_in; decide) (rfl) (rfl) dN_grain_79 ?_
                refine lv_dload_n hx hb dN_grain_80 rfl (lv_at hl 1 rfl) ?_
                refine lv_iload hx hb dN_grain_81 (lv_at hl 3 rfl) ?_
                refine lv_if_ne (tgt := 92) hx hb dN_grain_83 (by decide) (fun c_13 => ?_) (fun c_13 => ?_)
                · refine lv_iload hx hb dN_grain_92 (lv_at hl 3 rfl) ?_
                  refine lv_iconst (v := 1) hx hb dN_grain_94 (by decide) ?_
                  refine lv_icmp_ne (tgt := 104) hx hb dN_grain_95 (by decide) (fun c_14 => ?_) (fun c_14 => ?_)
                  · refine lv_ldc2d hx hb hown (hts _ tw_d_N_40) dN_grain_104 ?_
                    refine lv_dmul hx hb dN_grain_107 (by rw [← gp_c.2.2]; exact hok9.2.2.2.1) ?_
                    refine ct_topd (y := FP.dmul kg (gpD 2)) (by rw [gp_c.2.2]) ?_
                    refine lv_dadd hx hb dN_grain_108 (hok9.2.2.2.2.1) ?_
                    refine ct_dast (k := 8) (w1 := (wN ad cA (gr2 kg st9 2 a) Tm Ac gt lt (FP.dadd ts (FP.dmul kg st9)) nw st hs ht dc pa ib ac)) hx hb hK hP hD hS 1 0 rfl rfl (by unfold vp_in; decide) (rfl) (rfl) dN_grain_109 (fun H locs hP hD hS => ?_)
                    refine lv_iload hx hb dN_grain_110 (lv_at hl 3 rfl) ?_
                    refine lv_if_ne (tgt := 196) hx hb dN_grain_112 (by decide) (fun c_15 => ?_) (fun c_15 => ?_)
                    · refine lv_iload hx hb dN_grain_196 (lv_at hl 3 rfl) ?_
                      refine lv_iconst (v := 2) hx hb dN_grain_198 (by decide) ?_
                      refine lv_icmp_ne (tgt := 282) hx hb dN_grain_199 (by decide) (fun c_16 => ?_) (fun c_16 => ?_)
                      · exact (absurd rfl c_16)
                      · refine gNg_2 (l := l) (e := e) (below := below) (gr2 kg st9 2 a) kg Tm Ac gt lt (FP.dadd ts (FP.dmul kg st9)) nw st hs ht dc pa ib ac hx hb hts hown hK (fun i hi => by rw [gr2_at]; exact hok9.2.2.2.2.2 i hi) (fun ls H locs hP hD hS hl => ?_) ls _ _ hP hD hS (lv_sub hl [1, 0] rfl)
                        refine lv_aload_n hx hb dN_grain_282 rfl (lv_at hl 1 rfl) ?_
                        refine lv_iconst (v := 1) hx hb dN_grain_283 (by decide) ?_
                        refine va_put (D := (dC, dI)) (ci := 3) (v := .int 1) (ty := .boolean) (C := "MashEnzymesModel") (T := F_N) (N := 14) hx hb hts in_N t_N t_N_ok n_N hown hK hP hD hS 0 rfl rfl 3 (by decide) (hts _ tw_f_N_50) (fun _ h9 => h9) rfl (by decide +kernel) rfl rfl (Nat.le_of_ble_eq_true rfl) dN_grain_284 (fun H locs hP hD hS => ?_)
                        have hP : va_P (dC, dI) cls (wN ad cA (grE kg 2 4 (gr2 kg st9 2 a)) Tm Ac 1 lt (FP.dadd ts (FP.dmul kg st9)) nw st hs ht dc pa ib ac) H := hP
                        have hD : va_D A (wN ad cA (grE kg 2 4 (gr2 kg st9 2 a)) Tm Ac 1 lt (FP.dadd ts (FP.dmul kg st9)) nw st hs ht dc pa ib ac) := hD
                        refine lv_iconst (v := 1) hx hb dN_grain_287 (by decide) ?_
                        exact ct_ret1 hx hb hr rfl hlocks hP hK hD hS hz rfl dN_grain_288
                    · exact (absurd c_15 (by decide))
                  · exact (absurd c_14 (by decide))
                · exact (absurd c_13 (by decide))
            · refine lv_iconst (v := 0) hx hb dN_grain_37 (by decide) ?_
              exact ct_ret0 hx hb hr rfl hlocks hP hK hD hS (fun h => c_6 (lt3_2 h.2.2.2.2.2)) rfl dN_grain_38
end
section
/-- the reference's decoctions lie in one array -/
def tkP (a : Nat → UInt64) (sh : UInt64) (k i : Nat) (pa : Nat → UInt64) : Nat → UInt64 := fun m => if 13 * k ≤ m ∧ m < 13 * k + i then FP.dmul (a (m - 13 * k)) sh else pa m
theorem tkP_0 (a : Nat → UInt64) (sh : UInt64) (k : Nat) (pa : Nat → UInt64) : tkP a sh k 0 pa = pa := funext fun m => if_neg (by omega)
theorem tkP_s (a : Nat → UInt64) (sh : UInt64) (k i : Nat) (pa : Nat → UInt64) : vf_upd (tkP a sh k i pa) (13 * k + i) (FP.dmul (a i) sh) = tkP a sh k (i + 1) pa := funext fun m => by
  unfold vf_upd tkP
  by_cases h : m = 13 * k + i
  · subst h
    rw [if_pos rfl, if_pos (by omega), show 13 * k + i - 13 * k = i by omega]
  · rw [if_neg h]
    by_cases h2 : 13 * k ≤ m ∧ m < 13 * k + i
    · rw [if_pos h2, if_pos (by omega)]
    · rw [if_neg h2, if_neg (by omega)]
theorem lt_of_nge {o : Option Ordering} (h : o ≠ none) (h2 : ¬ (o = some .gt ∨ o = some .eq)) : o = some .lt := by
  cases o with
  | none => exact absurd rfl h
  | some o => cases o with
    | lt => rfl
    | eq => exact absurd (Or.inr rfl) h2
    | gt => exact absurd (Or.inl rfl) h2
set_option maxHeartbeats 4000000 in
set_option maxRecDepth 100000 in
/-- take -/
theorem cN_take (l : Launch) (dC : Nat → ClassId) (dI : Nat → Nat → Nat) (tt : Nat → Nat) (sz : Nat) (ad : Nat → Nat) (cA : Nat → ClassId) (a : Nat → UInt64) (Tm Ac : UInt64) (gt lt : Int32) (ts : UInt64) (nw st : Int32) (hs : Nat → Int32) (ht : Nat → UInt64) (k : Nat) (pa : Nat → UInt64) (ib : Nat → Int32) (ac : Nat → UInt64) (sh : UInt64) (hns : nNo sh) (hk9 : k ≤ 8) (hok : tkS sh gt lt → ∀ i, i < 13 → vf_n64 (FP.dmul (a i) sh) ∧ vf_n64 (FP.dsub (a i) (FP.dmul (a i) sh))) : Ct l dC dI tt yN_take bN_take 4 (some .int) ({ frames := 1, cells := 0, slots := 0, locals := 20 }) (tN cA) [.ref (ad 0), .double sh] (wN ad cA a Tm Ac gt lt ts nw st hs ht (nI k) pa ib ac) sz (fun A => ctQc dC dI (tN cA) (tkS sh gt lt ∧ k < 8) (nI k) (wN ad cA (tkA a sh 13) Tm Ac gt lt ts nw st hs ht (nI (k + 1)) (tkP a sh k 13 pa) (upd ib k 0) ac) (tkR sh gt lt) (wN ad cA a Tm Ac gt lt ts nw st hs ht (nI k) pa ib ac) A) := by
  refine ct_of (by decide) (Nat.le_of_ble_eq_true rfl) ?_
  intro p e s m below meth c A ls hx hb hr hts hown hml hlocks hnm hA hS hP hK hD hT hl
  have hl : lv_has ls 4 [(0, .ref (ad 0)), (1, .double sh)] := hl
  refine lv_dload_n hx hb dN_take_0 rfl (lv_at hl 1 rfl) ?_
  refine lv_dconst0 hx hb dN_take_1 ?_
  refine ct_topd (y := 0) rfl ?_
  refine lv_dcmp hx hb dN_take_2 ?_
  refine lv_if_le (tgt := 19) hx hb dN_take_3 (by decide) (fun c_1 => ?_) (fun c_1 => ?_)
  · refine lv_iconst (v := (-1)) hx hb dN_take_19 (by decide) ?_
    exact ct_ret0 hx hb hr rfl hlocks hP hK hD hS (fun h => (fun h => (cv_l_le _).mp c_1 h.1) h.1) (tkR_0 (fun h => (cv_l_le _).mp c_1 h.1)) dN_take_20
  · have h_sh0 := (Classical.not_not.mp fun h => c_1 ((cv_l_le _).mpr h) : FP.dcmp sh 0 = some .gt)
    refine lv_dload_n hx hb dN_take_6 rfl (lv_at hl 1 rfl) ?_
    refine lv_dconst1 hx hb dN_take_7 ?_
    refine ct_topd (y := 4607182418800017408) rfl ?_
    refine lv_dcmp hx hb dN_take_8 ?_
    refine lv_if_ge (tgt := 19) hx hb dN_take_9 (by decide) (fun c_2 => ?_) (fun c_2 => ?_)
    · refine lv_iconst (v := (-1)) hx hb dN_take_19 (by decide) ?_
      exact ct_ret0 hx hb hr rfl hlocks hP hK hD hS (fun h => (fun h => by have h1 := h.2.1; have := (cv_l_ge _).mp c_2; rw [h1] at this; simp at this) h.1) (tkR_0 (fun h => by have h1 := h.2.1; have := (cv_l_ge _).mp c_2; rw [h1] at this; simp at this)) dN_take_20
    · have h_sh1 := (lt_of_nge (hns _ (by decide)) (fun h => c_2 ((cv_l_ge _).mpr h)) : FP.dcmp sh 4607182418800017408 = some .lt)
      refine lv_aload_n hx hb dN_take_12 rfl (lv_at hl 0 rfl) ?_
      refine ct_cvc (As := []) (rest := []) (wr := []) (w1 := (wN ad cA a Tm Ac gt lt ts nw st hs ht (nI k) pa ib ac)) (w0 := (wN ad cA a Tm Ac gt lt ts nw st hs ht (nI k) pa ib ac)) ⟨hx, hb, hml, hown, hts⟩ (cN_isEmpty l dC dI tt _ ad cA a Tm Ac gt lt ts nw st hs ht (nI k) pa ib ac) (gT_V tw_m_N_101 tw_i_yN_isEmpty tw_s_yN_isEmpty tw_I_N tw_c_yN_isEmpty) ⟨rfl, by decide +kernel, by decide +kernel, (by decide +kernel : (parseMethodDescriptor yN_isEmpty.desc).map (fun d => d.parameters.length) = some 0)⟩ ⟨by decide, by decide⟩ (ci := 3) rfl rfl rfl hP hD hK hS hA hT [0, 1, 2, 3, 4, 5, 6] [] [0, 1, 2, 3, 4, 5] (by decide) rfl rfl (by decide) (by decide) rfl hl.1 rfl (Nat.le_of_ble_eq_true rfl) dN_take_13 ⟨by decide, by decide⟩ (fun c_3 H locs hP hD hS => ?_) (fun c_3 H locs hP hD hS => ?_)
      · have hP : va_P (dC, dI) cls (wN ad cA a Tm Ac gt lt ts nw st hs ht (nI k) pa ib ac) H := hP
        have hD : va_D A (wN ad cA a Tm Ac gt lt ts nw st hs ht (nI k) pa ib ac) := hD
        refine lv_if_eq (tgt := 21) hx hb dN_take_16 (by decide) (fun c_4 => ?_) (fun c_4 => ?_)
        · exact (absurd c_4 (by decide))
        · refine lv_iconst (v := (-1)) hx hb dN_take_19 (by decide) ?_
          exact ct_ret0 hx hb hr rfl hlocks hP hK hD hS (fun h => h.1.2.2 c_3) (tkR_0 (fun h => h.2.2 c_3)) dN_take_20
      · have hP : va_P (dC, dI) cls (wN ad cA a Tm Ac gt lt ts nw st hs ht (nI k) pa ib ac) H := hP
        have hD : va_D A (wN ad cA a Tm Ac gt lt ts nw st hs ht (nI k) pa ib ac) := hD
        refine lv_if_eq (tgt := 21) hx hb dN_take_16 (by decide) (fun c_5 => ?_) (fun c_5 => ?_)
        · have hts9 : tkS sh gt lt := ⟨h_sh0, h_sh1, c_3⟩
          refine lv_aload_n hx hb dN_take_21 rfl (lv_at hl 0 rfl) ?_
          refine va_get (D := (dC, dI)) (ci := 3) (v := .int (nI k)) (C := "MashEnzymesModel") (T := F_N) (N := 14) hx hb hts in_N hown hK hP 0 rfl rfl 10 (by decide) (hts _ tw_f_N_111) (fun _ h9 => h9) rfl dN_take_22 ?_
          refine lv_bipush (v := 8) hx hb dN_take_25 (by decide) ?_
          refine lv_icmp_ne (tgt := 33) hx hb dN_take_27 (by decide) (fun c_6 => ?_) (fun c_6 => ?_)
          · have hk8 : k < 8 := Nat.lt_of_le_of_ne hk9 fun h => c_6 ((nI_eq (a := k) (b := 8) (by omega) (by decide)).mpr h)
            refine lv_iconst (v := 0) hx hb dN_take_33 (by decide) ?_
            refine ct_topi (y := nI 0) (rfl) ?_
            refine lv_istore_n (lv' := [(3, .int (nI 0)), (0, .ref (ad 0)), (1, .double sh)]) hx hb dN_take_34 rfl hl (by decide) rfl (fun ls hl => ?_)
            have key : ∀ (n i : Nat) (ls : Array Slot) (H : Heap) (locs : List Loc), n + i = 13 → va_P (dC, dI) cls (wN ad cA (tkA a sh i) Tm Ac gt lt ts nw st hs ht (nI k) (tkP a sh k i pa) ib ac) H → va_D A (wN ad cA (tkA a sh i) Tm Ac gt lt ts nw st hs ht (nI k) (tkP a sh k i pa) ib ac) → va_S A s.heap H locs → lv_has ls 4 [(3, .int (nI i)), (1, .double sh), (0, .ref (ad 0))] → W p l e ({ frames := 1, cells := 0, slots := 0, locals := 20 } : Room) s m ([.ref (ad 0), .double sh] : List Value).toArray below meth c H locs 0 0 (MQ below (ctQc dC dI (tN cA) (tkS sh gt lt ∧ k < 8) (nI k) (wN ad cA (tkA a sh 13) Tm Ac gt lt ts nw st hs ht (nI (k + 1)) (tkP a sh k 13 pa) (upd ib k 0) ac) (tkR sh gt lt) (wN ad cA a Tm Ac gt lt ts nw st hs ht (nI k) pa ib ac) A) ([.ref (ad 0), .double sh] : List Value).toArray s 0 0 A) (F0 m 35 ls []) := by
              intro n
              induction n with
              | zero =>
                intro i ls H locs hni hP hD hS hl
                refine lv_iload_n hx hb dN_take_35 rfl (lv_at hl 0 rfl) ?_
                refine lv_bipush (v := 13) hx hb dN_take_36 (by decide) ?_
                refine lv_icmp_ge (tgt := 90) hx hb dN_take_38 (by decide) (fun c_7 => ?_) (fun c_7 => ?_)
                · have hi : i = 13 := by omega
                  subst hi
                  refine lv_aload_n hx hb dN_take_90 rfl (lv_at hl 2 rfl) ?_
                  refine va_get (D := (dC, dI)) (ci := 3) (v := .ref (ad 5)) (C := "MashEnzymesModel") (T := F_N) (N := 14) hx hb hts in_N hown hK hP 0 rfl rfl 12 (by decide) (hts _ tw_f_N_23) (fun _ h9 => h9) rfl dN_take_91 ?_
                  refine lv_aload_n hx hb dN_take_94 rfl (lv_at hl 2 rfl) ?_
                  refine va_get (D := (dC, dI)) (ci := 3) (v := .int (nI k)) (C := "MashEnzymesModel") (T := F_N) (N := 14) hx hb hts in_N hown hK hP 0 rfl rfl 10 (by decide) (hts _ tw_f_N_111) (fun _ h9 => h9) rfl dN_take_95 ?_
                  refine lv_iconst (v := 0) hx hb dN_take_98 (by decide) ?_
                  refine va_zast hx hb hK hP hD hS 5 4 rfl rfl (vp_in_nI hk8 (by decide)) dN_take_99 (fun H locs hP hD hS => ?_)
                  rw [nI_clamp (show k < 2 ^ 31 by omega)] at hP hD
                  have hP : va_P (dC, dI) cls (wN ad cA (tkA a sh 13) Tm Ac gt lt ts nw st hs ht (nI k) (tkP a sh k 13 pa) (upd ib k 0) ac) H := hP
                  have hD : va_D A (wN ad cA (tkA a sh 13) Tm Ac gt lt ts nw st hs ht (nI k) (tkP a sh k 13 pa) (upd ib k 0) ac) := hD
                  refine lv_aload_n hx hb dN_take_100 rfl (lv_at hl 2 rfl) ?_
                  refine lv_dup hx hb dN_take_101 rfl ?_
                  refine va_get (D := (dC, dI)) (ci := 3) (v := .int (nI k)) (C := "MashEnzymesModel") (T := F_N) (N := 14) hx hb hts in_N hown hK hP 0 rfl rfl 10 (by decide) (hts _ tw_f_N_111) (fun _ h9 => h9) rfl dN_take_102 ?_
                  refine lv_iconst (v := 1) hx hb dN_take_105 (by decide) ?_
                  refine lv_iadd hx hb dN_take_106 ?_
                  refine ct_topi (y := nI (k + 1)) (nI_1 k) ?_
                  refine va_put (D := (dC, dI)) (ci := 3) (v := .int (nI (k + 1))) (ty := .int) (C := "MashEnzymesModel") (T := F_N) (N := 14) hx hb hts in_N t_N t_N_ok n_N hown hK hP hD hS 0 rfl rfl 10 (by decide) (hts _ tw_f_N_111) (fun _ h9 => h9) rfl (by decide +kernel) rfl rfl (Nat.le_of_ble_eq_true rfl) dN_take_107 (fun H locs hP hD hS => ?_)
                  have hP : va_P (dC, dI) cls (wN ad cA (tkA a sh 13) Tm Ac gt lt ts nw st hs ht (nI (k + 1)) (tkP a sh k 13 pa) (upd ib k 0) ac) H := hP
                  have hD : va_D A (wN ad cA (tkA a sh 13) Tm Ac gt lt ts nw st hs ht (nI (k + 1)) (tkP a sh k 13 pa) (upd ib k 0) ac) := hD
                  refine lv_aload_n hx hb dN_take_110 rfl (lv_at hl 2 rfl) ?_
                  refine va_get (D := (dC, dI)) (ci := 3) (v := .int (nI (k + 1))) (C := "MashEnzymesModel") (T := F_N) (N := 14) hx hb hts in_N hown hK hP 0 rfl rfl 10 (by decide) (hts _ tw_f_N_111) (fun _ h9 => h9) rfl dN_take_111 ?_
                  refine lv_iconst (v := 1) hx hb dN_take_114 (by decide) ?_
                  refine lv_isub hx hb dN_take_115 ?_
                  refine ct_topi (y := nI k) (nI_pred k) ?_
                  exact ct_ret1 hx hb hr rfl hlocks hP hK hD hS ⟨hts9, hk8⟩ rfl dN_take_116
                · exact absurd (nI_le (a := 13) (b := i) (by omega) (by omega)) c_7
              | succ n ih =>
                intro i ls H locs hni hP hD hS hl
                refine lv_iload_n hx hb dN_take_35 rfl (lv_at hl 0 rfl) ?_
                refine lv_bipush (v := 13) hx hb dN_take_36 (by decide) ?_
                refine lv_icmp_ge (tgt := 90) hx hb dN_take_38 (by decide) (fun c_8 => ?_) (fun c_8 => ?_)
                · exact absurd ((nI_leI (a := 13) (b := i) (by decide) (by omega)).mp c_8) (by omega)
                · have hi : i < 13 := by omega
                  refine lv_aload_n hx hb dN_take_41 rfl (lv_at hl 2 rfl) ?_
                  refine va_get (D := (dC, dI)) (ci := 3) (v := .ref (ad 4)) (C := "MashEnzymesModel") (T := F_N) (N := 14) hx hb hts in_N hown hK hP 0 rfl rfl 11 (by decide) (hts _ tw_f_N_20) (fun _ h9 => h9) rfl dN_take_42 ?_
                  refine lv_bipush (v := 13) hx hb dN_take_45 (by decide) ?_
                  refine lv_aload_n hx hb dN_take_47 rfl (lv_at hl 2 rfl) ?_
                  refine va_get (D := (dC, dI)) (ci := 3) (v := .int (nI k)) (C := "MashEnzymesModel") (T := F_N) (N := 14) hx hb hts in_N hown hK hP 0 rfl rfl 10 (by decide) (hts _ tw_f_N_111) (fun _ h9 => h9) rfl dN_take_48 ?_
                  refine lv_imul hx hb dN_take_51 ?_
                  refine ct_topi (y := nI (13 * k)) (by rw [show (13 : Int32) = nI 13 from rfl, pk_mul]) ?_
                  refine lv_iload_n hx hb dN_take_52 rfl (lv_at hl 0 rfl) ?_
                  refine lv_iadd hx hb dN_take_53 ?_
                  refine ct_topi (y := nI (13 * k + i)) (nI_add _ _) ?_
                  refine lv_aload_n hx hb dN_take_54 rfl (lv_at hl 2 rfl) ?_
                  refine va_get (D := (dC, dI)) (ci := 3) (v := .ref (ad 1)) (C := "MashEnzymesModel") (T := F_N) (N := 14) hx hb hts in_N hown hK hP 0 rfl rfl 0 (by decide) (hts _ tw_f_N_9) (fun _ h9 => h9) rfl dN_take_55 ?_
                  refine lv_iload_n hx hb dN_take_58 rfl (lv_at hl 0 rfl) ?_
                  refine ct_dald (k := i) (v := a i) hx hb hK hP 1 0 rfl rfl (vp_in_nI (by omega) (by decide)) (nI_clamp (by omega)) (tkA_at a sh i) dN_take_59 ?_
                  refine lv_dload_n hx hb dN_take_60 rfl (lv_at hl 1 rfl) ?_
                  refine lv_dmul hx hb dN_take_61 ((hok hts9 i hi).1) ?_
                  refine ct_dast (k := (13 * k + i)) (w1 := (wN ad cA (tkA a sh i) Tm Ac gt lt ts nw st hs ht (nI k) (tkP a sh k (i + 1) pa) ib ac)) hx hb hK hP hD hS 4 3 rfl rfl (vp_in_nI (by omega) (by decide)) (nI_clamp (by omega)) (by rw [← tkP_s]; rfl) dN_take_62 (fun H locs hP hD hS => ?_)
                  refine lv_aload_n hx hb dN_take_63 rfl (lv_at hl 2 rfl) ?_
                  refine va_get (D := (dC, dI)) (ci := 3) (v := .ref (ad 1)) (C := "MashEnzymesModel") (T := F_N) (N := 14) hx hb hts in_N hown hK hP 0 rfl rfl 0 (by decide) (hts _ tw_f_N_9) (fun _ h9 => h9) rfl dN_take_64 ?_
                  refine lv_iload_n hx hb dN_take_67 rfl (lv_at hl 0 rfl) ?_
                  refine lv_aload_n hx hb dN_take_68 rfl (lv_at hl 2 rfl) ?_
                  refine va_get (D := (dC, dI)) (ci := 3) (v := .ref (ad 1)) (C := "MashEnzymesModel") (T := F_N) (N := 14) hx hb hts in_N hown hK hP 0 rfl rfl 0 (by decide) (hts _ tw_f_N_9) (fun _ h9 => h9) rfl dN_take_69 ?_
                  refine lv_iload_n hx hb dN_take_72 rfl (lv_at hl 0 rfl) ?_
                  refine ct_dald (k := i) (v := a i) hx hb hK hP 1 0 rfl rfl (vp_in_nI (by omega) (by decide)) (nI_clamp (by omega)) (tkA_at a sh i) dN_take_73 ?_
                  refine lv_aload_n hx hb dN_take_74 rfl (lv_at hl 2 rfl) ?_
                  refine va_get (D := (dC, dI)) (ci := 3) (v := .ref (ad 1)) (C := "MashEnzymesModel") (T := F_N) (N := 14) hx hb hts in_N hown hK hP 0 rfl rfl 0 (by decide) (hts _ tw_f_N_9) (fun _ h9 => h9) rfl dN_take_75 ?_
                  refine lv_iload_n hx hb dN_take_78 rfl (lv_at hl 0 rfl) ?_
                  refine ct_dald (k := i) (v := a i) hx hb hK hP 1 0 rfl rfl (vp_in_nI (by omega) (by decide)) (nI_clamp (by omega)) (tkA_at a sh i) dN_take_79 ?_
                  refine lv_dload_n hx hb dN_take_80 rfl (lv_at hl 1 rfl) ?_
                  refine lv_dmul hx hb dN_take_81 ((hok hts9 i hi).1) ?_
                  refine lv_dsub hx hb dN_take_82 ((hok hts9 i hi).2) ?_
                  refine ct_dast (k := i) (w1 := (wN ad cA (tkA a sh (i + 1)) Tm Ac gt lt ts nw st hs ht (nI k) (tkP a sh k (i + 1) pa) ib ac)) hx hb hK hP hD hS 1 0 rfl rfl (vp_in_nI (by omega) (by decide)) (nI_clamp (by omega)) (by rw [← tkA_s]; rfl) dN_take_83 (fun H locs hP hD hS => ?_)
                  refine lv_iinc (v := (nI (i + 1))) (lv' := [(3, .int (nI (i + 1))), (1, .double sh), (0, .ref (ad 0))]) hx hb dN_take_84 hl (k := 0) rfl (nI_1 i) (by decide) rfl (fun ls hl => ?_)
                  refine lv_goto (tgt := 35) hx hb dN_take_87 (by decide) ?_
                  exact ih (i + 1) ls H locs (by omega) hP hD hS (lv_sub hl [0, 1, 2] rfl)
            have hP : va_P (dC, dI) cls (wN ad cA (tkA a sh 0) Tm Ac gt lt ts nw st hs ht (nI k) (tkP a sh k 0 pa) ib ac) _ := (by rw [tkA_0, tkP_0]; exact hP)
            have hD : va_D A (wN ad cA (tkA a sh 0) Tm Ac gt lt ts nw st hs ht (nI k) (tkP a sh k 0 pa) ib ac) := (by rw [tkA_0, tkP_0]; exact hD)
            exact key 13 0 ls _ _ rfl hP hD hS (lv_sub hl [0, 2, 1] rfl)
          · refine lv_bipush (v := (-2)) hx hb dN_take_30 (by decide) ?_
            exact ct_ret0 hx hb hr rfl hlocks hP hK hD hS (fun h => absurd ((nI_eq (a := k) (b := 8) (by omega) (by decide)).mp c_6) (by have := h.2; omega)) (tkR_1 hts9) dN_take_32
        · exact absurd rfl c_5

set_option maxHeartbeats 4000000 in
set_option maxRecDepth 100000 in
/-- back -/
theorem cN_back (l : Launch) (dC : Nat → ClassId) (dI : Nat → Nat → Nat) (tt : Nat → Nat) (sz : Nat) (ad : Nat → Nat) (cA : Nat → ClassId) (a : Nat → UInt64) (Tm Ac : UInt64) (gt lt : Int32) (ts : UInt64) (nw st : Int32) (hs : Nat → Int32) (ht : Nat → UInt64) (kd : Nat) (pa : Nat → UInt64) (ib : Nat → Int32) (ac : Nat → UInt64) (dec : Int32) (d : UInt64) (hnd : nNo d) (hk9 : kd ≤ 8) (hok : bkOK ib (nI kd) dec d → okM Tm (a 0) d (pa (13 * dec.toNatClampNeg)) ∧ ∀ i, i < 13 → vf_n64 (FP.dadd (a i) (pa ((13 * dec.toNatClampNeg) + i)))) : Ct l dC dI tt yN_back bN_back 7 (some .boolean) ({ frames := 0, cells := 0, slots := 0, locals := 0 }) (tN cA) [.ref (ad 0), .int dec, .double d] (wN ad cA a Tm Ac gt lt ts nw st hs ht (nI kd) pa ib ac) sz (fun A => ctQc dC dI (tN cA) (bkOK ib (nI kd) dec d) 1 (wN ad cA (bkA a (fun m => pa ((13 * dec.toNatClampNeg) + m)) 13) (mixD Tm (a 0) d (pa (13 * dec.toNatClampNeg))) Ac gt lt ts nw st hs ht (nI kd) pa (upd ib dec.toNatClampNeg 1) ac) 0 (wN ad cA a Tm Ac gt lt ts nw st hs ht (nI kd) pa ib ac) A) := by
  refine ct_of (by decide) (Nat.le_of_ble_eq_true rfl) ?_
  intro p e s m below meth c A ls hx hb hr hts hown hml hlocks hnm hA hS hP hK hD hT hl
  have hl : lv_has ls 7 [(0, .ref (ad 0)), (1, .int dec), (2, .double d)] := hl
  have htp := tpOK_iff (hnd 0 (by decide)) (hnd _ (by decide) : FP.dcmp d 4636737291354636288 ≠ none)
  refine lv_iload_n hx hb dN_back_0 rfl (lv_at hl 1 rfl) ?_
  refine lv_if_lt (tgt := 35) hx hb dN_back_1 (by decide) (fun c_1 => ?_) (fun c_1 => ?_)
  · refine lv_iconst (v := 0) hx hb dN_back_35 (by decide) ?_
    exact ct_ret0 hx hb hr rfl hlocks hP hK hD hS (fun h => Int32.not_lt.mpr h.1 c_1) rfl dN_back_36
  · have h_0 := (c_1 : ¬ dec < 0)
    refine lv_iload_n hx hb dN_back_4 rfl (lv_at hl 1 rfl) ?_
    refine lv_aload_n hx hb dN_back_5 rfl (lv_at hl 0 rfl) ?_
    refine va_get (D := (dC, dI)) (ci := 3) (v := .int (nI kd)) (C := "MashEnzymesModel") (T := F_N) (N := 14) hx hb hts in_N hown hK hP 0 rfl rfl 10 (by decide) (hts _ tw_f_N_111) (fun _ h9 => h9) rfl dN_back_6 ?_
    refine lv_icmp_ge (tgt := 35) hx hb dN_back_9 (by decide) (fun c_2 => ?_) (fun c_2 => ?_)
    · refine lv_iconst (v := 0) hx hb dN_back_35 (by decide) ?_
      exact ct_ret0 hx hb hr rfl hlocks hP hK hD hS (fun h => Int32.not_lt.mpr c_2 h.2.1) rfl dN_back_36
    · have h_1 := (Int32.not_le.mp c_2 : dec < nI kd)
      obtain ⟨k, hk, rfl⟩ := nI_of (x := dec) h_0
      have hkd : k < kd := (nI_ltI hk (by omega)).mp h_1
      have hk8 : k < 8 := by omega
      have hkc : (nI k).toNatClampNeg = k := nI_clamp hk
      refine lv_aload_n hx hb dN_back_12 rfl (lv_at hl 0 rfl) ?_
      refine va_get (D := (dC, dI)) (ci := 3) (v := .ref (ad 5)) (C := "MashEnzymesModel") (T := F_N) (N := 14) hx hb hts in_N hown hK hP 0 rfl rfl 12 (by decide) (hts _ tw_f_N_23) (fun _ h9 => h9) rfl dN_back_13 ?_
      refine lv_iload_n hx hb dN_back_16 rfl (lv_at hl 1 rfl) ?_
      refine va_zald hx hb hK hP 5 4 rfl rfl (vp_in_nI hk8 (by decide)) dN_back_17 ?_
      rw [hkc]
      refine lv_if_ne (tgt := 35) hx hb dN_back_18 (by decide) (fun c_3 => ?_) (fun c_3 => ?_)
      · refine lv_iconst (v := 0) hx hb dN_back_35 (by decide) ?_
        exact ct_ret0 hx hb hr rfl hlocks hP hK hD hS (fun h => c_3 (by have := h.2.2.1; rwa [hkc] at this)) rfl dN_back_36
      · have h_2 : ib k = 0 := c_3
        refine lv_dload_n hx hb dN_back_21 rfl (lv_at hl 2 rfl) ?_
        refine lv_dconst0 hx hb dN_back_22 ?_
        refine ct_topd (y := 0) rfl ?_
        refine lv_dcmp hx hb dN_back_23 ?_
        refine lv_if_lt (tgt := 35) hx hb dN_back_24 (by decide) (fun c_4 => ?_) (fun c_4 => ?_)
        · refine lv_iconst (v := 0) hx hb dN_back_35 (by decide) ?_
          exact ct_ret0 hx hb hr rfl hlocks hP hK hD hS (fun h => (htp.mp h.2.2.2).1 ((cvn_l (hnd 0 (by decide))).mp c_4)) rfl dN_back_36
        · have h_d0 := (fun h => c_4 ((cvn_l (hnd 0 (by decide))).mpr h) : ¬ FP.dcmp d 0 = some .lt)
          refine lv_dload_n hx hb dN_back_27 rfl (lv_at hl 2 rfl) ?_
          refine lv_ldc2d hx hb hown (hts _ tw_d_N_56) dN_back_28 ?_
          refine lv_dcmp hx hb dN_back_31 ?_
          refine lv_if_le (tgt := 37) hx hb dN_back_32 (by decide) (fun c_5 => ?_) (fun c_5 => ?_)
          · have h_d1 := ((cv_l_le _).mp c_5 : ¬ FP.dcmp d 4636737291354636288 = some .gt)
            have hbk : bkOK ib (nI kd) (nI k) d := ⟨Int32.not_lt.mp h_0, h_1, by rw [hkc]; exact h_2, htp.mpr ⟨h_d0, h_d1⟩⟩
            have hok9 := hok hbk
            rw [hkc] at hok9
            have key : ∀ (n i : Nat) (ls : Array Slot) (H : Heap) (locs : List Loc), n + i = 13 → va_P (dC, dI) cls (wN ad cA (bkA a (fun m => pa (13 * k + m)) i) (mixD Tm (a 0) d (pa (13 * k))) Ac gt lt ts nw st hs ht (nI kd) pa ib ac) H → va_D A (wN ad cA (bkA a (fun m => pa (13 * k + m)) i) (mixD Tm (a 0) d (pa (13 * k))) Ac gt lt ts nw st hs ht (nI kd) pa ib ac) → va_S A s.heap H locs → lv_has ls 7 [(6, .int (nI i)), (1, .int (nI k)), (0, .ref (ad 0))] → W p l e ({ frames := 0, cells := 0, slots := 0, locals := 0 } : Room) s m ([.ref (ad 0), .int (nI k), .double d] : List Value).toArray below meth c H locs 0 0 (MQ below (ctQc dC dI (tN cA) (bkOK ib (nI kd) (nI k) d) 1 (wN ad cA (bkA a (fun m => pa (13 * k + m)) 13) (mixD Tm (a 0) d (pa (13 * k))) Ac gt lt ts nw st hs ht (nI kd) pa (upd ib k 1) ac) 0 (wN ad cA a Tm Ac gt lt ts nw st hs ht (nI kd) pa ib ac) A) ([.ref (ad 0), .int (nI k), .double d] : List Value).toArray s 0 0 A) (F0 m 95 ls []) := by
              intro n
              induction n with
              | zero =>
                intro i ls H locs hni hP hD hS hl
                refine lv_iload hx hb dN_back_95 (lv_at hl 0 rfl) ?_
                refine lv_bipush (v := 13) hx hb dN_back_97 (by decide) ?_
                refine lv_icmp_ge (tgt := 135) hx hb dN_back_99 (by decide) (fun c_6 => ?_) (fun c_6 => ?_)
                · have hi : i = 13 := by omega
                  subst hi
                  refine lv_aload_n hx hb dN_back_135 rfl (lv_at hl 2 rfl) ?_
                  refine va_get (D := (dC, dI)) (ci := 3) (v := .ref (ad 5)) (C := "MashEnzymesModel") (T := F_N) (N := 14) hx hb hts in_N hown hK hP 0 rfl rfl 12 (by decide) (hts _ tw_f_N_23) (fun _ h9 => h9) rfl dN_back_136 ?_
                  refine lv_iload_n hx hb dN_back_139 rfl (lv_at hl 1 rfl) ?_
                  refine lv_iconst (v := 1) hx hb dN_back_140 (by decide) ?_
                  refine va_zast hx hb hK hP hD hS 5 4 rfl rfl (vp_in_nI hk8 (by decide)) dN_back_141 (fun H locs hP hD hS => ?_)
                  rw [hkc] at hP hD
                  have hP : va_P (dC, dI) cls (wN ad cA (bkA a (fun m => pa (13 * k + m)) 13) (mixD Tm (a 0) d (pa (13 * k))) Ac gt lt ts nw st hs ht (nI kd) pa (upd ib k 1) ac) H := hP
                  have hD : va_D A (wN ad cA (bkA a (fun m => pa (13 * k + m)) 13) (mixD Tm (a 0) d (pa (13 * k))) Ac gt lt ts nw st hs ht (nI kd) pa (upd ib k 1) ac) := hD
                  refine lv_iconst (v := 1) hx hb dN_back_142 (by decide) ?_
                  exact ct_ret1 hx hb hr rfl hlocks hP hK hD hS hbk rfl dN_back_143
                · exact absurd (nI_le (a := 13) (b := i) (by omega) (by omega)) c_6
              | succ n ih =>
                intro i ls H locs hni hP hD hS hl
                refine lv_iload hx hb dN_back_95 (lv_at hl 0 rfl) ?_
                refine lv_bipush (v := 13) hx hb dN_back_97 (by decide) ?_
                refine lv_icmp_ge (tgt := 135) hx hb dN_back_99 (by decide) (fun c_7 => ?_) (fun c_7 => ?_)
                · exact absurd ((nI_leI (a := 13) (b := i) (by decide) (by omega)).mp c_7) (by omega)
                · have hi : i < 13 := by omega
                  refine lv_aload_n hx hb dN_back_102 rfl (lv_at hl 2 rfl) ?_
                  refine va_get (D := (dC, dI)) (ci := 3) (v := .ref (ad 1)) (C := "MashEnzymesModel") (T := F_N) (N := 14) hx hb hts in_N hown hK hP 0 rfl rfl 0 (by decide) (hts _ tw_f_N_9) (fun _ h9 => h9) rfl dN_back_103 ?_
                  refine lv_iload hx hb dN_back_106 (lv_at hl 0 rfl) ?_
                  refine lv_aload_n hx hb dN_back_108 rfl (lv_at hl 2 rfl) ?_
                  refine va_get (D := (dC, dI)) (ci := 3) (v := .ref (ad 1)) (C := "MashEnzymesModel") (T := F_N) (N := 14) hx hb hts in_N hown hK hP 0 rfl rfl 0 (by decide) (hts _ tw_f_N_9) (fun _ h9 => h9) rfl dN_back_109 ?_
                  refine lv_iload hx hb dN_back_112 (lv_at hl 0 rfl) ?_
                  refine ct_dald (k := i) (v := a i) hx hb hK hP 1 0 rfl rfl (vp_in_nI (by omega) (by decide)) (nI_clamp (by omega)) (bkA_at a (fun m => pa (13 * k + m)) i) dN_back_114 ?_
                  refine lv_aload_n hx hb dN_back_115 rfl (lv_at hl 2 rfl) ?_
                  refine va_get (D := (dC, dI)) (ci := 3) (v := .ref (ad 4)) (C := "MashEnzymesModel") (T := F_N) (N := 14) hx hb hts in_N hown hK hP 0 rfl rfl 11 (by decide) (hts _ tw_f_N_20) (fun _ h9 => h9) rfl dN_back_116 ?_
                  refine lv_bipush (v := 13) hx hb dN_back_119 (by decide) ?_
                  refine lv_iload_n hx hb dN_back_121 rfl (lv_at hl 1 rfl) ?_
                  refine lv_imul hx hb dN_back_122 ?_
                  refine ct_topi (y := nI (13 * k)) (by rw [show (13 : Int32) = nI 13 from rfl, pk_mul]) ?_
                  refine lv_iload hx hb dN_back_123 (lv_at hl 0 rfl) ?_
                  refine lv_iadd hx hb dN_back_125 ?_
                  refine ct_topi (y := nI (13 * k + i)) (nI_add _ _) ?_
                  refine ct_dald (k := (13 * k + i)) (v := pa (13 * k + i)) hx hb hK hP 4 3 rfl rfl (vp_in_nI (by omega) (by decide)) (nI_clamp (by omega)) (rfl) dN_back_126 ?_
                  refine lv_dadd hx hb dN_back_127 (hok9.2 i hi) ?_
                  refine ct_dast (k := i) (w1 := (wN ad cA (bkA a (fun m => pa (13 * k + m)) (i + 1)) (mixD Tm (a 0) d (pa (13 * k))) Ac gt lt ts nw st hs ht (nI kd) pa ib ac)) hx hb hK hP hD hS 1 0 rfl rfl (vp_in_nI (by omega) (by decide)) (nI_clamp (by omega)) (by rw [← bkA_s]; rfl) dN_back_128 (fun H locs hP hD hS => ?_)
                  refine lv_iinc (v := (nI (i + 1))) (lv' := [(6, .int (nI (i + 1))), (1, .int (nI k)), (0, .ref (ad 0))]) hx hb dN_back_129 hl (k := 0) rfl (nI_1 i) (by decide) rfl (fun ls hl => ?_)
                  refine lv_goto (tgt := 95) hx hb dN_back_132 (by decide) ?_
                  exact ih (i + 1) ls H locs (by omega) hP hD hS (lv_sub hl [0, 1, 2] rfl)
            have key92 : ∀ (ls : Array Slot) (H : Heap) (locs : List Loc), va_P (dC, dI) cls (wN ad cA a (mixD Tm (a 0) d (pa (13 * k))) Ac gt lt ts nw st hs ht (nI kd) pa ib ac) H → va_D A (wN ad cA a (mixD Tm (a 0) d (pa (13 * k))) Ac gt lt ts nw st hs ht (nI kd) pa ib ac) → va_S A s.heap H locs → lv_has ls 7 [(1, .int (nI k)), (0, .ref (ad 0))] → W p l e ({ frames := 0, cells := 0, slots := 0, locals := 0 } : Room) s m ([.ref (ad 0), .int (nI k), .double d] : List Value).toArray below meth c H locs 0 0 (MQ below (ctQc dC dI (tN cA) (bkOK ib (nI kd) (nI k) d) 1 (wN ad cA (bkA a (fun m => pa (13 * k + m)) 13) (mixD Tm (a 0) d (pa (13 * k))) Ac gt lt ts nw st hs ht (nI kd) pa (upd ib k 1) ac) 0 (wN ad cA a Tm Ac gt lt ts nw st hs ht (nI kd) pa ib ac) A) ([.ref (ad 0), .int (nI k), .double d] : List Value).toArray s 0 0 A) (F0 m 92 ls []) := by
              intro ls H locs hP hD hS hl
              refine lv_iconst (v := 0) hx hb dN_back_92 (by decide) ?_
              refine ct_topi (y := nI 0) (rfl) ?_
              refine lv_istore (lv' := [(6, .int (nI 0)), (1, .int (nI k)), (0, .ref (ad 0))]) hx hb dN_back_93 hl (by decide) rfl (fun ls hl => ?_)
              have hP : va_P (dC, dI) cls (wN ad cA (bkA a (fun m => pa (13 * k + m)) 0) (mixD Tm (a 0) d (pa (13 * k))) Ac gt lt ts nw st hs ht (nI kd) pa ib ac) _ := (by rw [bkA_0]; exact hP)
              have hD : va_D A (wN ad cA (bkA a (fun m => pa (13 * k + m)) 0) (mixD Tm (a 0) d (pa (13 * k))) Ac gt lt ts nw st hs ht (nI kd) pa ib ac) := (by rw [bkA_0]; exact hD)
              exact key 13 0 ls _ _ rfl hP hD hS (lv_sub hl [0, 1, 2] rfl)
            refine lv_aload_n hx hb dN_back_37 rfl (lv_at hl 0 rfl) ?_
            refine va_get (D := (dC, dI)) (ci := 3) (v := .ref (ad 4)) (C := "MashEnzymesModel") (T := F_N) (N := 14) hx hb hts in_N hown hK hP 0 rfl rfl 11 (by decide) (hts _ tw_f_N_20) (fun _ h9 => h9) rfl dN_back_38 ?_
            refine lv_bipush (v := 13) hx hb dN_back_41 (by decide) ?_
            refine lv_iload_n hx hb dN_back_43 rfl (lv_at hl 1 rfl) ?_
            refine lv_imul hx hb dN_back_44 ?_
            refine ct_topi (y := nI (13 * k)) (by rw [show (13 : Int32) = nI 13 from rfl, pk_mul]) ?_
            refine ct_dald (k := (13 * k)) (v := pa (13 * k)) hx hb hK hP 4 3 rfl rfl (vp_in_nI (by omega) (by decide)) (nI_clamp (by omega)) (rfl) dN_back_45 ?_
            refine lv_dstore (lv' := [(4, .double (pa (13 * k))), (0, .ref (ad 0)), (1, .int (nI k)), (2, .double d)]) hx hb dN_back_46 hl (by decide) rfl (fun ls hl => ?_)
            refine lv_aload_n hx hb dN_back_48 rfl (lv_at hl 1 rfl) ?_
            refine va_get (D := (dC, dI)) (ci := 3) (v := .ref (ad 1)) (C := "MashEnzymesModel") (T := F_N) (N := 14) hx hb hts in_N hown hK hP 0 rfl rfl 0 (by decide) (hts _ tw_f_N_9) (fun _ h9 => h9) rfl dN_back_49 ?_
            refine lv_iconst (v := 0) hx hb dN_back_52 (by decide) ?_
            refine ct_dald (k := 0) (v := a 0) hx hb hK hP 1 0 rfl rfl (by unfold vp_in; decide) (rfl) (rfl) dN_back_53 ?_
            refine lv_dload hx hb dN_back_54 (lv_at hl 0 rfl) ?_
            refine lv_dadd hx hb dN_back_56 (hok9.1.1) ?_
            refine lv_dconst0 hx hb dN_back_57 ?_
            refine ct_topd (y := 0) rfl ?_
            refine lv_dcmp hx hb dN_back_58 ?_
            refine lv_if_le (tgt := 92) hx hb dN_back_59 (by decide) (fun c_8 => ?_) (fun c_8 => ?_)
            · have hT9 : mixD Tm (a 0) d (pa (13 * k)) = Tm := by unfold mixD; rw [if_neg ((cv_l_le _).mp c_8)]
              have hP : va_P (dC, dI) cls (wN ad cA a (mixD Tm (a 0) d (pa (13 * k))) Ac gt lt ts nw st hs ht (nI kd) pa ib ac) _ := (by rw [hT9]; exact hP)
              have hD : va_D A (wN ad cA a (mixD Tm (a 0) d (pa (13 * k))) Ac gt lt ts nw st hs ht (nI kd) pa ib ac) := (by rw [hT9]; exact hD)
              exact key92 ls _ _ hP hD hS (lv_sub hl [2, 1] rfl)
            · have hg : FP.dcmp (FP.dadd (a 0) (pa (13 * k))) 0 = some .gt := Classical.not_not.mp fun h => c_8 ((cv_l_le _).mpr h)
              refine lv_aload_n hx hb dN_back_62 rfl (lv_at hl 1 rfl) ?_
              refine lv_aload_n hx hb dN_back_63 rfl (lv_at hl 1 rfl) ?_
              refine va_get (D := (dC, dI)) (ci := 3) (v := .double Tm) (C := "MashEnzymesModel") (T := F_N) (N := 14) hx hb hts in_N hown hK hP 0 rfl rfl 1 (by decide) (hts _ tw_f_N_62) (fun _ h9 => h9) rfl dN_back_64 ?_
              refine lv_aload_n hx hb dN_back_67 rfl (lv_at hl 1 rfl) ?_
              refine va_get (D := (dC, dI)) (ci := 3) (v := .ref (ad 1)) (C := "MashEnzymesModel") (T := F_N) (N := 14) hx hb hts in_N hown hK hP 0 rfl rfl 0 (by decide) (hts _ tw_f_N_9) (fun _ h9 => h9) rfl dN_back_68 ?_
              refine lv_iconst (v := 0) hx hb dN_back_71 (by decide) ?_
              refine ct_dald (k := 0) (v := a 0) hx hb hK hP 1 0 rfl rfl (by unfold vp_in; decide) (rfl) (rfl) dN_back_72 ?_
              refine lv_dmul hx hb dN_back_73 ((hok9.1.2 hg).1) ?_
              refine lv_dload_n hx hb dN_back_74 rfl (lv_at hl 3 rfl) ?_
              refine lv_dload hx hb dN_back_75 (lv_at hl 0 rfl) ?_
              refine lv_dmul hx hb dN_back_77 ((hok9.1.2 hg).2.1) ?_
              refine lv_dadd hx hb dN_back_78 ((hok9.1.2 hg).2.2.1) ?_
              refine lv_aload_n hx hb dN_back_79 rfl (lv_at hl 1 rfl) ?_
              refine va_get (D := (dC, dI)) (ci := 3) (v := .ref (ad 1)) (C := "MashEnzymesModel") (T := F_N) (N := 14) hx hb hts in_N hown hK hP 0 rfl rfl 0 (by decide) (hts _ tw_f_N_9) (fun _ h9 => h9) rfl dN_back_80 ?_
              refine lv_iconst (v := 0) hx hb dN_back_83 (by decide) ?_
              refine ct_dald (k := 0) (v := a 0) hx hb hK hP 1 0 rfl rfl (by unfold vp_in; decide) (rfl) (rfl) dN_back_84 ?_
              refine lv_dload hx hb dN_back_85 (lv_at hl 0 rfl) ?_
              refine lv_dadd hx hb dN_back_87 (hok9.1.1) ?_
              refine lv_ddiv hx hb dN_back_88 ((hok9.1.2 hg).2.2.2) ?_
              refine ct_topd (y := mixD Tm (a 0) d (pa (13 * k))) (by unfold mixD; rw [if_pos hg]) ?_
              refine va_put (D := (dC, dI)) (ci := 3) (v := .double (mixD Tm (a 0) d (pa (13 * k)))) (ty := .double) (C := "MashEnzymesModel") (T := F_N) (N := 14) hx hb hts in_N t_N t_N_ok n_N hown hK hP hD hS 0 rfl rfl 1 (by decide) (hts _ tw_f_N_62) (fun _ h9 => h9) rfl (by decide +kernel) rfl rfl (Nat.le_of_ble_eq_true rfl) dN_back_89 (fun H locs hP hD hS => ?_)
              have hP : va_P (dC, dI) cls (wN ad cA a (mixD Tm (a 0) d (pa (13 * k))) Ac gt lt ts nw st hs ht (nI kd) pa ib ac) H := hP
              have hD : va_D A (wN ad cA a (mixD Tm (a 0) d (pa (13 * k))) Ac gt lt ts nw st hs ht (nI kd) pa ib ac) := hD
              exact key92 ls _ _ hP hD hS (lv_sub hl [2, 1] rfl)
          · refine lv_iconst (v := 0) hx hb dN_back_35 (by decide) ?_
            exact ct_ret0 hx hb hr rfl hlocks hP hK hD hS (fun h => (htp.mp h.2.2.2).2 (Classical.not_not.mp fun h9 => c_5 ((cv_l_le _).mpr h9))) rfl dN_back_36
end
section
set_option maxHeartbeats 4000000 in
set_option maxRecDepth 100000 in
/-- Heating() -/
theorem cH_init (l : Launch) (dC : Nat → ClassId) (dI : Nat → Nat → Nat) (tt : Nat → Nat) (sz : Nat) (h0 : Nat) : Ct l dC dI tt yH_init bH_init 1 none ({ frames := 1, cells := 2, slots := 64, locals := 12 }) [] [.ref h0] [(h0, .inr (1, [.null, .null, .int 0, .int 0]))] sz (fun A => va_Qv (fun _ : Nat × Nat × ClassId × ClassId => True) (fun u t => ctB dC dI (tH u.2.2.1 u.2.2.2) (wH h0 u.1 u.2.1 u.2.2.1 u.2.2.2 (fun _ => 0) (fun _ => 0) 0 0) A t) A) := by
  refine ct_of (by decide) (Nat.le_of_ble_eq_true rfl) ?_
  intro p e s m below meth c A ls hx hb hr hts hown hml hlocks hnm hA hS hP hK hD hT hl
  have hl : lv_has ls 1 [(0, .ref h0)] := hl
  refine lv_aload_n hx hb dH_init_0 rfl (lv_at hl 0 rfl) ?_
  refine W.objInit hx hb hown (hts _ tw_m_H_3) (hts _ tw_i_objectInit) (hts _ tw_c_objectInit) rfl (by rw [hml]; exact hl.1) rfl dH_init_1 (Nat.le_of_ble_eq_true rfl) (Nat.le_of_ble_eq_true rfl) ?_
  refine W.eq (g2 := F0 m 4 ls []) rfl ?_
  refine lv_aload_n hx hb dH_init_4 rfl (lv_at hl 0 rfl) ?_
  refine lv_bipush (v := 32) hx hb dH_init_5 (by decide) ?_
  refine va_newa (atype := .int) (N' := 32) (a0 := (32, .inl (fun _ => 0))) (ty := .int) (n := 32) hx hb (hts _ tw_a_int) rfl hK hP hD hS hA (fun _ => rfl) (by decide) (by decide) (by decide) (Nat.le_of_ble_eq_true rfl) (Nat.le_of_ble_eq_true rfl) dH_init_7 (fun q1 k1 H hK hP hD hS => ?_)
  have hP : va_P (dC, dI) cls [(h0, .inr (1, [.null, .null, .int 0, .int 0])), (q1, .inl (k1, 32, .inl (fun _ => 0)))] H := hP
  have hD : va_D A [(h0, .inr (1, [.null, .null, .int 0, .int 0])), (q1, .inl (k1, 32, .inl (fun _ => 0)))] := hD
  have hK : va_K (dC, dI) cls [(k1, .int)] s := hK
  refine W.widen (k := 1) (n := 32) (Nat.le_of_ble_eq_true rfl) (Nat.le_of_ble_eq_true rfl) ?_
  refine va_putF (D := (dC, dI)) (ci := 1) (v := .ref q1) (ty := .array .int) (C := "MashEnzymes$Heating") (T := F_H) (N := 4) hx hb hts in_H t_H t_H_ok n_H hown hK hP hD hS 0 rfl rfl 0 (by decide) (hts _ tw_f_H_9) (fun _ h9 => h9) rfl hnm rfl (by decide +kernel) rfl rfl (Nat.le_of_ble_eq_true rfl) dH_init_9 (fun H locs hP hD hS => ?_)
  have hP : va_P (dC, dI) cls [(h0, .inr (1, [.ref q1, .null, .int 0, .int 0])), (q1, .inl (k1, 32, .inl (fun _ => 0)))] H := hP
  have hD : va_D A [(h0, .inr (1, [.ref q1, .null, .int 0, .int 0])), (q1, .inl (k1, 32, .inl (fun _ => 0)))] := hD
  refine lv_aload_n hx hb dH_init_12 rfl (lv_at hl 0 rfl) ?_
  refine lv_bipush (v := 32) hx hb dH_init_13 (by decide) ?_
  refine va_newa (atype := .double) (N' := 32) (a0 := (32, .inr (.inr (.inr (.inl (fun _ => 0)))))) (ty := .double) (n := 32) hx hb (hts _ tw_a_double) rfl hK hP hD hS hA (fun _ => rfl) (by decide) (by decide) (by decide) (Nat.le_of_ble_eq_true rfl) (Nat.le_of_ble_eq_true rfl) dH_init_15 (fun q2 k2 H hK hP hD hS => ?_)
  have hP : va_P (dC, dI) cls [(h0, .inr (1, [.ref q1, .null, .int 0, .int 0])), (q1, .inl (k1, 32, .inl (fun _ => 0))), (q2, .inl (k2, 32, .inr (.inr (.inr (.inl (fun _ => 0))))))] H := hP
  have hD : va_D A [(h0, .inr (1, [.ref q1, .null, .int 0, .int 0])), (q1, .inl (k1, 32, .inl (fun _ => 0))), (q2, .inl (k2, 32, .inr (.inr (.inr (.inl (fun _ => 0))))))] := hD
  have hK : va_K (dC, dI) cls [(k1, .int), (k2, .double)] s := hK
  refine W.widen (k := 2) (n := 64) (Nat.le_of_ble_eq_true rfl) (Nat.le_of_ble_eq_true rfl) ?_
  refine va_putF (D := (dC, dI)) (ci := 1) (v := .ref q2) (ty := .array .double) (C := "MashEnzymes$Heating") (T := F_H) (N := 4) hx hb hts in_H t_H t_H_ok n_H hown hK hP hD hS 0 rfl rfl 1 (by decide) (hts _ tw_f_H_15) (fun _ h9 => h9) rfl hnm rfl (by decide +kernel) rfl rfl (Nat.le_of_ble_eq_true rfl) dH_init_17 (fun H locs hP hD hS => ?_)
  have hP : va_P (dC, dI) cls [(h0, .inr (1, [.ref q1, .ref q2, .int 0, .int 0])), (q1, .inl (k1, 32, .inl (fun _ => 0))), (q2, .inl (k2, 32, .inr (.inr (.inr (.inl (fun _ => 0))))))] H := hP
  have hD : va_D A [(h0, .inr (1, [.ref q1, .ref q2, .int 0, .int 0])), (q1, .inl (k1, 32, .inl (fun _ => 0))), (q2, .inl (k2, 32, .inr (.inr (.inr (.inl (fun _ => 0))))))] := hD
  have hP9 : va_P (dC, dI) cls (wH h0 q1 q2 k1 k2 (fun _ => 0) (fun _ => 0) 0 0) H := hP
  have hD9 : va_D A (wH h0 q1 q2 k1 k2 (fun _ => 0) (fun _ => 0) 0 0) := hD
  have hK9 : va_K (dC, dI) cls (tH k1 k2) s := hK
  exact W.vret hx hb hr (fun t ht hW => ⟨⟨(q1, q2, k1, k2), rfl, trivial, by rw [ht]; exact hP9, va_K.moved hW.alike hK9, hD9⟩, hS.F ht⟩) hS.2.2 dH_init_20 hlocks
set_option maxHeartbeats 4000000 in
set_option maxRecDepth 100000 in
/-- Rows() -/
theorem cQ_init (l : Launch) (dC : Nat → ClassId) (dI : Nat → Nat → Nat) (tt : Nat → Nat) (sz : Nat) (h0 : Nat) : Ct l dC dI tt yQ_init bQ_init 1 none ({ frames := 4, cells := 1, slots := 9, locals := 93 }) [] [.ref h0] [(h0, .inr (2, [.null, .double 0]))] sz (fun A => va_Qv (fun _ : Nat × ClassId => True) (fun u t => ctB dC dI (tQ u.2) (wQ h0 u.1 u.2 (rwA 0 9 (fun _ => 0)) 0) A t) A) := by
  refine ct_of (by decide) (Nat.le_of_ble_eq_true rfl) ?_
  intro p e s m below meth c A ls hx hb hr hts hown hml hlocks hnm hA hS hP hK hD hT hl
  have hl : lv_has ls 1 [(0, .ref h0)] := hl
  refine lv_aload_n hx hb dQ_init_0 rfl (lv_at hl 0 rfl) ?_
  refine W.objInit hx hb hown (hts _ tw_m_Q_5) (hts _ tw_i_objectInit) (hts _ tw_c_objectInit) rfl (by rw [hml]; exact hl.1) rfl dQ_init_1 (Nat.le_of_ble_eq_true rfl) (Nat.le_of_ble_eq_true rfl) ?_
  refine W.eq (g2 := F0 m 4 ls []) rfl ?_
  refine lv_aload_n hx hb dQ_init_4 rfl (lv_at hl 0 rfl) ?_
  refine lv_bipush (v := 9) hx hb dQ_init_5 (by decide) ?_
  refine va_newa (atype := .double) (N' := 9) (a0 := (9, .inr (.inr (.inr (.inl (fun _ => 0)))))) (ty := .double) (n := 9) hx hb (hts _ tw_a_double) rfl hK hP hD hS hA (fun _ => rfl) (by decide) (by decide) (by decide) (Nat.le_of_ble_eq_true rfl) (Nat.le_of_ble_eq_true rfl) dQ_init_7 (fun q1 k1 H hK hP hD hS => ?_)
  have hP : va_P (dC, dI) cls [(h0, .inr (2, [.null, .double 0])), (q1, .inl (k1, 9, .inr (.inr (.inr (.inl (fun _ => 0))))))] H := hP
  have hD : va_D A [(h0, .inr (2, [.null, .double 0])), (q1, .inl (k1, 9, .inr (.inr (.inr (.inl (fun _ => 0))))))] := hD
  have hK : va_K (dC, dI) cls [(k1, .double)] s := hK
  refine W.widen (k := 1) (n := 9) (Nat.le_of_ble_eq_true rfl) (Nat.le_of_ble_eq_true rfl) ?_
  refine va_putF (D := (dC, dI)) (ci := 2) (v := .ref q1) (ty := .array .double) (C := "MashEnzymes$Rows") (T := F_Q) (N := 2) hx hb hts in_Q t_Q t_Q_ok n_Q hown hK hP hD hS 0 rfl rfl 0 (by decide) (hts _ tw_f_Q_11) (fun _ h9 => h9) rfl hnm rfl (by decide +kernel) rfl rfl (Nat.le_of_ble_eq_true rfl) dQ_init_9 (fun H locs hP hD hS => ?_)
  have hP : va_P (dC, dI) cls [(h0, .inr (2, [.ref q1, .double 0])), (q1, .inl (k1, 9, .inr (.inr (.inr (.inl (fun _ => 0))))))] H := hP
  have hD : va_D A [(h0, .inr (2, [.ref q1, .double 0])), (q1, .inl (k1, 9, .inr (.inr (.inr (.inl (fun _ => 0))))))] := hD
  refine lv_aload_n hx hb dQ_init_12 rfl (lv_at hl 0 rfl) ?_
  refine ct_cvv (As := []) (rest := []) (wr := []) (w1 := (wQ h0 q1 k1 (rwA 0 9 (fun _ => 0)) 0)) ⟨hx, hb, hml, hown, hts⟩ (cQ_reckonValues l dC dI tt _ h0 q1 k1 (fun _ => 0) 0 ft_0P) (gT_V tw_m_Q_15 tw_i_yQ_reckonValues tw_s_yQ_reckonValues tw_I_Q tw_c_yQ_reckonValues) ⟨rfl, by decide +kernel, by decide +kernel, (by decide +kernel : (parseMethodDescriptor yQ_reckonValues.desc).map (fun d => d.parameters.length) = some 0)⟩ ⟨by decide, by decide⟩ (ci := 2) rfl rfl rfl hP hD hK hS hA hT [0, 1] [] [0] (by decide) rfl rfl (by decide) (by decide) rfl hl.1 rfl (Nat.le_of_ble_eq_true rfl) dQ_init_13 ⟨by decide, by decide⟩ (fun H locs hP hD hS => ?_)
  have hP9 : va_P (dC, dI) cls (wQ h0 q1 k1 (rwA 0 9 (fun _ => 0)) 0) H := hP
  have hD9 : va_D A (wQ h0 q1 k1 (rwA 0 9 (fun _ => 0)) 0) := hD
  have hK9 : va_K (dC, dI) cls (tQ k1) s := hK
  exact W.vret hx hb hr (fun t ht hW => ⟨⟨(q1, k1), rfl, trivial, by rw [ht]; exact hP9, va_K.moved hW.alike hK9, hD9⟩, hS.F ht⟩) hS.2.2 dQ_init_16 hlocks
set_option maxHeartbeats 4000000 in
set_option maxRecDepth 100000 in
/-- MashEnzymesModel() -/
theorem cN_init (l : Launch) (dC : Nat → ClassId) (dI : Nat → Nat → Nat) (tt : Nat → Nat) (sz : Nat) (h0 : Nat) : Ct l dC dI tt yN_init bN_init 1 none ({ frames := 1, cells := 6, slots := 193, locals := 12 }) [] [.ref h0] [(h0, .inr (3, [.null, .double 0, .double 0, .int 0, .int 0, .double 0, .int 0, .int 0, .null, .null, .int 0, .null, .null, .null]))] sz (fun A => va_Qv (fun u : (Nat → Nat) × (Nat → ClassId) => u.1 0 = h0) (fun u t => ctB dC dI (tN u.2) (wN u.1 u.2 (fun _ => 0) 0 0 0 0 0 0 0 (fun _ => 0) (fun _ => 0) 0 (fun _ => 0) (fun _ => 0) (fun _ => 0)) A t) A) := by
  refine ct_of (by decide) (Nat.le_of_ble_eq_true rfl) ?_
  intro p e s m below meth c A ls hx hb hr hts hown hml hlocks hnm hA hS hP hK hD hT hl
  have hl : lv_has ls 1 [(0, .ref h0)] := hl
  refine lv_aload_n hx hb dN_init_0 rfl (lv_at hl 0 rfl) ?_
  refine W.objInit hx hb hown (hts _ tw_m_N_1) (hts _ tw_i_objectInit) (hts _ tw_c_objectInit) rfl (by rw [hml]; exact hl.1) rfl dN_init_1 (Nat.le_of_ble_eq_true rfl) (Nat.le_of_ble_eq_true rfl) ?_
  refine W.eq (g2 := F0 m 4 ls []) rfl ?_
  refine lv_aload_n hx hb dN_init_4 rfl (lv_at hl 0 rfl) ?_
  refine lv_bipush (v := 13) hx hb dN_init_5 (by decide) ?_
  refine va_newa (atype := .double) (N' := 13) (a0 := (13, .inr (.inr (.inr (.inl (fun _ => 0)))))) (ty := .double) (n := 13) hx hb (hts _ tw_a_double) rfl hK hP hD hS hA (fun _ => rfl) (by decide) (by decide) (by decide) (Nat.le_of_ble_eq_true rfl) (Nat.le_of_ble_eq_true rfl) dN_init_7 (fun q1 k1 H hK hP hD hS => ?_)
  have hP : va_P (dC, dI) cls [(h0, .inr (3, [.null, .double 0, .double 0, .int 0, .int 0, .double 0, .int 0, .int 0, .null, .null, .int 0, .null, .null, .null])), (q1, .inl (k1, 13, .inr (.inr (.inr (.inl (fun _ => 0))))))] H := hP
  have hD : va_D A [(h0, .inr (3, [.null, .double 0, .double 0, .int 0, .int 0, .double 0, .int 0, .int 0, .null, .null, .int 0, .null, .null, .null])), (q1, .inl (k1, 13, .inr (.inr (.inr (.inl (fun _ => 0))))))] := hD
  have hK : va_K (dC, dI) cls [(k1, .double)] s := hK
  refine W.widen (k := 1) (n := 13) (Nat.le_of_ble_eq_true rfl) (Nat.le_of_ble_eq_true rfl) ?_
  refine va_putF (D := (dC, dI)) (ci := 3) (v := .ref q1) (ty := .array .double) (C := "MashEnzymesModel") (T := F_N) (N := 14) hx hb hts in_N t_N t_N_ok n_N hown hK hP hD hS 0 rfl rfl 0 (by decide) (hts _ tw_f_N_9) (fun _ h9 => h9) rfl hnm rfl (by decide +kernel) rfl rfl (Nat.le_of_ble_eq_true rfl) dN_init_9 (fun H locs hP hD hS => ?_)
  have hP : va_P (dC, dI) cls [(h0, .inr (3, [.ref q1, .double 0, .double 0, .int 0, .int 0, .double 0, .int 0, .int 0, .null, .null, .int 0, .null, .null, .null])), (q1, .inl (k1, 13, .inr (.inr (.inr (.inl (fun _ => 0))))))] H := hP
  have hD : va_D A [(h0, .inr (3, [.ref q1, .double 0, .double 0, .int 0, .int 0, .double 0, .int 0, .int 0, .null, .null, .int 0, .null, .null, .null])), (q1, .inl (k1, 13, .inr (.inr (.inr (.inl (fun _ => 0))))))] := hD
  refine lv_aload_n hx hb dN_init_12 rfl (lv_at hl 0 rfl) ?_
  refine lv_bipush (v := 32) hx hb dN_init_13 (by decide) ?_
  refine va_newa (atype := .int) (N' := 32) (a0 := (32, .inl (fun _ => 0))) (ty := .int) (n := 32) hx hb (hts _ tw_a_int) rfl hK hP hD hS hA (fun _ => rfl) (by decide) (by decide) (by decide) (Nat.le_of_ble_eq_true rfl) (Nat.le_of_ble_eq_true rfl) dN_init_15 (fun q2 k2 H hK hP hD hS => ?_)
  have hP : va_P (dC, dI) cls [(h0, .inr (3, [.ref q1, .double 0, .double 0, .int 0, .int 0, .double 0, .int 0, .int 0, .null, .null, .int 0, .null, .null, .null])), (q1, .inl (k1, 13, .inr (.inr (.inr (.inl (fun _ => 0)))))), (q2, .inl (k2, 32, .inl (fun _ => 0)))] H := hP
  have hD : va_D A [(h0, .inr (3, [.ref q1, .double 0, .double 0, .int 0, .int 0, .double 0, .int 0, .int 0, .null, .null, .int 0, .null, .null, .null])), (q1, .inl (k1, 13, .inr (.inr (.inr (.inl (fun _ => 0)))))), (q2, .inl (k2, 32, .inl (fun _ => 0)))] := hD
  have hK : va_K (dC, dI) cls [(k1, .double), (k2, .int)] s := hK
  refine W.widen (k := 2) (n := 45) (Nat.le_of_ble_eq_true rfl) (Nat.le_of_ble_eq_true rfl) ?_
  refine va_putF (D := (dC, dI)) (ci := 3) (v := .ref q2) (ty := .array .int) (C := "MashEnzymesModel") (T := F_N) (N := 14) hx hb hts in_N t_N t_N_ok n_N hown hK hP hD hS 0 rfl rfl 8 (by decide) (hts _ tw_f_N_13) (fun _ h9 => h9) rfl hnm rfl (by decide +kernel) rfl rfl (Nat.le_of_ble_eq_true rfl) dN_init_17 (fun H locs hP hD hS => ?_)
  have hP : va_P (dC, dI) cls [(h0, .inr (3, [.ref q1, .double 0, .double 0, .int 0, .int 0, .double 0, .int 0, .int 0, .ref q2, .null, .int 0, .null, .null, .null])), (q1, .inl (k1, 13, .inr (.inr (.inr (.inl (fun _ => 0)))))), (q2, .inl (k2, 32, .inl (fun _ => 0)))] H := hP
  have hD : va_D A [(h0, .inr (3, [.ref q1, .double 0, .double 0, .int 0, .int 0, .double 0, .int 0, .int 0, .ref q2, .null, .int 0, .null, .null, .null])), (q1, .inl (k1, 13, .inr (.inr (.inr (.inl (fun _ => 0)))))), (q2, .inl (k2, 32, .inl (fun _ => 0)))] := hD
  refine lv_aload_n hx hb dN_init_20 rfl (lv_at hl 0 rfl) ?_
  refine lv_bipush (v := 32) hx hb dN_init_21 (by decide) ?_
  refine va_newa (atype := .double) (N' := 32) (a0 := (32, .inr (.inr (.inr (.inl (fun _ => 0)))))) (ty := .double) (n := 32) hx hb (hts _ tw_a_double) rfl hK hP hD hS hA (fun _ => rfl) (by decide) (by decide) (by decide) (Nat.le_of_ble_eq_true rfl) (Nat.le_of_ble_eq_true rfl) dN_init_23 (fun q3 k3 H hK hP hD hS => ?_)
  have hP : va_P (dC, dI) cls [(h0, .inr (3, [.ref q1, .double 0, .double 0, .int 0, .int 0, .double 0, .int 0, .int 0, .ref q2, .null, .int 0, .null, .null, .null])), (q1, .inl (k1, 13, .inr (.inr (.inr (.inl (fun _ => 0)))))), (q2, .inl (k2, 32, .inl (fun _ => 0))), (q3, .inl (k3, 32, .inr (.inr (.inr (.inl (fun _ => 0))))))] H := hP
  have hD : va_D A [(h0, .inr (3, [.ref q1, .double 0, .double 0, .int 0, .int 0, .double 0, .int 0, .int 0, .ref q2, .null, .int 0, .null, .null, .null])), (q1, .inl (k1, 13, .inr (.inr (.inr (.inl (fun _ => 0)))))), (q2, .inl (k2, 32, .inl (fun _ => 0))), (q3, .inl (k3, 32, .inr (.inr (.inr (.inl (fun _ => 0))))))] := hD
  have hK : va_K (dC, dI) cls [(k1, .double), (k2, .int), (k3, .double)] s := hK
  refine W.widen (k := 3) (n := 77) (Nat.le_of_ble_eq_true rfl) (Nat.le_of_ble_eq_true rfl) ?_
  refine va_putF (D := (dC, dI)) (ci := 3) (v := .ref q3) (ty := .array .double) (C := "MashEnzymesModel") (T := F_N) (N := 14) hx hb hts in_N t_N t_N_ok n_N hown hK hP hD hS 0 rfl rfl 9 (by decide) (hts _ tw_f_N_17) (fun _ h9 => h9) rfl hnm rfl (by decide +kernel) rfl rfl (Nat.le_of_ble_eq_true rfl) dN_init_25 (fun H locs hP hD hS => ?_)
  have hP : va_P (dC, dI) cls [(h0, .inr (3, [.ref q1, .double 0, .double 0, .int 0, .int 0, .double 0, .int 0, .int 0, .ref q2, .ref q3, .int 0, .null, .null, .null])), (q1, .inl (k1, 13, .inr (.inr (.inr (.inl (fun _ => 0)))))), (q2, .inl (k2, 32, .inl (fun _ => 0))), (q3, .inl (k3, 32, .inr (.inr (.inr (.inl (fun _ => 0))))))] H := hP
  have hD : va_D A [(h0, .inr (3, [.ref q1, .double 0, .double 0, .int 0, .int 0, .double 0, .int 0, .int 0, .ref q2, .ref q3, .int 0, .null, .null, .null])), (q1, .inl (k1, 13, .inr (.inr (.inr (.inl (fun _ => 0)))))), (q2, .inl (k2, 32, .inl (fun _ => 0))), (q3, .inl (k3, 32, .inr (.inr (.inr (.inl (fun _ => 0))))))] := hD
  refine lv_aload_n hx hb dN_init_28 rfl (lv_at hl 0 rfl) ?_
  refine lv_bipush (v := 104) hx hb dN_init_29 (by decide) ?_
  refine va_newa (atype := .double) (N' := 104) (a0 := (104, .inr (.inr (.inr (.inl (fun _ => 0)))))) (ty := .double) (n := 104) hx hb (hts _ tw_a_double) rfl hK hP hD hS hA (fun _ => rfl) (by decide) (by decide) (by decide) (Nat.le_of_ble_eq_true rfl) (Nat.le_of_ble_eq_true rfl) dN_init_31 (fun q4 k4 H hK hP hD hS => ?_)
  have hP : va_P (dC, dI) cls [(h0, .inr (3, [.ref q1, .double 0, .double 0, .int 0, .int 0, .double 0, .int 0, .int 0, .ref q2, .ref q3, .int 0, .null, .null, .null])), (q1, .inl (k1, 13, .inr (.inr (.inr (.inl (fun _ => 0)))))), (q2, .inl (k2, 32, .inl (fun _ => 0))), (q3, .inl (k3, 32, .inr (.inr (.inr (.inl (fun _ => 0)))))), (q4, .inl (k4, 104, .inr (.inr (.inr (.inl (fun _ => 0))))))] H := hP
  have hD : va_D A [(h0, .inr (3, [.ref q1, .double 0, .double 0, .int 0, .int 0, .double 0, .int 0, .int 0, .ref q2, .ref q3, .int 0, .null, .null, .null])), (q1, .inl (k1, 13, .inr (.inr (.inr (.inl (fun _ => 0)))))), (q2, .inl (k2, 32, .inl (fun _ => 0))), (q3, .inl (k3, 32, .inr (.inr (.inr (.inl (fun _ => 0)))))), (q4, .inl (k4, 104, .inr (.inr (.inr (.inl (fun _ => 0))))))] := hD
  have hK : va_K (dC, dI) cls [(k1, .double), (k2, .int), (k3, .double), (k4, .double)] s := hK
  refine W.widen (k := 4) (n := 181) (Nat.le_of_ble_eq_true rfl) (Nat.le_of_ble_eq_true rfl) ?_
  refine va_putF (D := (dC, dI)) (ci := 3) (v := .ref q4) (ty := .array .double) (C := "MashEnzymesModel") (T := F_N) (N := 14) hx hb hts in_N t_N t_N_ok n_N hown hK hP hD hS 0 rfl rfl 11 (by decide) (hts _ tw_f_N_20) (fun _ h9 => h9) rfl hnm rfl (by decide +kernel) rfl rfl (Nat.le_of_ble_eq_true rfl) dN_init_33 (fun H locs hP hD hS => ?_)
  have hP : va_P (dC, dI) cls [(h0, .inr (3, [.ref q1, .double 0, .double 0, .int 0, .int 0, .double 0, .int 0, .int 0, .ref q2, .ref q3, .int 0, .ref q4, .null, .null])), (q1, .inl (k1, 13, .inr (.inr (.inr (.inl (fun _ => 0)))))), (q2, .inl (k2, 32, .inl (fun _ => 0))), (q3, .inl (k3, 32, .inr (.inr (.inr (.inl (fun _ => 0)))))), (q4, .inl (k4, 104, .inr (.inr (.inr (.inl (fun _ => 0))))))] H := hP
  have hD : va_D A [(h0, .inr (3, [.ref q1, .double 0, .double 0, .int 0, .int 0, .double 0, .int 0, .int 0, .ref q2, .ref q3, .int 0, .ref q4, .null, .null])), (q1, .inl (k1, 13, .inr (.inr (.inr (.inl (fun _ => 0)))))), (q2, .inl (k2, 32, .inl (fun _ => 0))), (q3, .inl (k3, 32, .inr (.inr (.inr (.inl (fun _ => 0)))))), (q4, .inl (k4, 104, .inr (.inr (.inr (.inl (fun _ => 0))))))] := hD
  refine lv_aload_n hx hb dN_init_36 rfl (lv_at hl 0 rfl) ?_
  refine lv_bipush (v := 8) hx hb dN_init_37 (by decide) ?_
  refine va_newa (atype := .boolean) (N' := 8) (a0 := (8, .inl (fun _ => 0))) (ty := .boolean) (n := 8) hx hb (hts _ tw_a_boolean) rfl hK hP hD hS hA (fun _ => rfl) (by decide) (by decide) (by decide) (Nat.le_of_ble_eq_true rfl) (Nat.le_of_ble_eq_true rfl) dN_init_39 (fun q5 k5 H hK hP hD hS => ?_)
  have hP : va_P (dC, dI) cls [(h0, .inr (3, [.ref q1, .double 0, .double 0, .int 0, .int 0, .double 0, .int 0, .int 0, .ref q2, .ref q3, .int 0, .ref q4, .null, .null])), (q1, .inl (k1, 13, .inr (.inr (.inr (.inl (fun _ => 0)))))), (q2, .inl (k2, 32, .inl (fun _ => 0))), (q3, .inl (k3, 32, .inr (.inr (.inr (.inl (fun _ => 0)))))), (q4, .inl (k4, 104, .inr (.inr (.inr (.inl (fun _ => 0)))))), (q5, .inl (k5, 8, .inl (fun _ => 0)))] H := hP
  have hD : va_D A [(h0, .inr (3, [.ref q1, .double 0, .double 0, .int 0, .int 0, .double 0, .int 0, .int 0, .ref q2, .ref q3, .int 0, .ref q4, .null, .null])), (q1, .inl (k1, 13, .inr (.inr (.inr (.inl (fun _ => 0)))))), (q2, .inl (k2, 32, .inl (fun _ => 0))), (q3, .inl (k3, 32, .inr (.inr (.inr (.inl (fun _ => 0)))))), (q4, .inl (k4, 104, .inr (.inr (.inr (.inl (fun _ => 0)))))), (q5, .inl (k5, 8, .inl (fun _ => 0)))] := hD
  have hK : va_K (dC, dI) cls [(k1, .double), (k2, .int), (k3, .double), (k4, .double), (k5, .boolean)] s := hK
  refine W.widen (k := 5) (n := 189) (Nat.le_of_ble_eq_true rfl) (Nat.le_of_ble_eq_true rfl) ?_
  refine va_putF (D := (dC, dI)) (ci := 3) (v := .ref q5) (ty := .array .boolean) (C := "MashEnzymesModel") (T := F_N) (N := 14) hx hb hts in_N t_N t_N_ok n_N hown hK hP hD hS 0 rfl rfl 12 (by decide) (hts _ tw_f_N_23) (fun _ h9 => h9) rfl hnm rfl (by decide +kernel) rfl rfl (Nat.le_of_ble_eq_true rfl) dN_init_41 (fun H locs hP hD hS => ?_)
  have hP : va_P (dC, dI) cls [(h0, .inr (3, [.ref q1, .double 0, .double 0, .int 0, .int 0, .double 0, .int 0, .int 0, .ref q2, .ref q3, .int 0, .ref q4, .ref q5, .null])), (q1, .inl (k1, 13, .inr (.inr (.inr (.inl (fun _ => 0)))))), (q2, .inl (k2, 32, .inl (fun _ => 0))), (q3, .inl (k3, 32, .inr (.inr (.inr (.inl (fun _ => 0)))))), (q4, .inl (k4, 104, .inr (.inr (.inr (.inl (fun _ => 0)))))), (q5, .inl (k5, 8, .inl (fun _ => 0)))] H := hP
  have hD : va_D A [(h0, .inr (3, [.ref q1, .double 0, .double 0, .int 0, .int 0, .double 0, .int 0, .int 0, .ref q2, .ref q3, .int 0, .ref q4, .ref q5, .null])), (q1, .inl (k1, 13, .inr (.inr (.inr (.inl (fun _ => 0)))))), (q2, .inl (k2, 32, .inl (fun _ => 0))), (q3, .inl (k3, 32, .inr (.inr (.inr (.inl (fun _ => 0)))))), (q4, .inl (k4, 104, .inr (.inr (.inr (.inl (fun _ => 0)))))), (q5, .inl (k5, 8, .inl (fun _ => 0)))] := hD
  refine lv_aload_n hx hb dN_init_44 rfl (lv_at hl 0 rfl) ?_
  refine lv_iconst (v := 4) hx hb dN_init_45 (by decide) ?_
  refine va_newa (atype := .double) (N' := 4) (a0 := (4, .inr (.inr (.inr (.inl (fun _ => 0)))))) (ty := .double) (n := 4) hx hb (hts _ tw_a_double) rfl hK hP hD hS hA (fun _ => rfl) (by decide) (by decide) (by decide) (Nat.le_of_ble_eq_true rfl) (Nat.le_of_ble_eq_true rfl) dN_init_46 (fun q6 k6 H hK hP hD hS => ?_)
  have hP : va_P (dC, dI) cls [(h0, .inr (3, [.ref q1, .double 0, .double 0, .int 0, .int 0, .double 0, .int 0, .int 0, .ref q2, .ref q3, .int 0, .ref q4, .ref q5, .null])), (q1, .inl (k1, 13, .inr (.inr (.inr (.inl (fun _ => 0)))))), (q2, .inl (k2, 32, .inl (fun _ => 0))), (q3, .inl (k3, 32, .inr (.inr (.inr (.inl (fun _ => 0)))))), (q4, .inl (k4, 104, .inr (.inr (.inr (.inl (fun _ => 0)))))), (q5, .inl (k5, 8, .inl (fun _ => 0))), (q6, .inl (k6, 4, .inr (.inr (.inr (.inl (fun _ => 0))))))] H := hP
  have hD : va_D A [(h0, .inr (3, [.ref q1, .double 0, .double 0, .int 0, .int 0, .double 0, .int 0, .int 0, .ref q2, .ref q3, .int 0, .ref q4, .ref q5, .null])), (q1, .inl (k1, 13, .inr (.inr (.inr (.inl (fun _ => 0)))))), (q2, .inl (k2, 32, .inl (fun _ => 0))), (q3, .inl (k3, 32, .inr (.inr (.inr (.inl (fun _ => 0)))))), (q4, .inl (k4, 104, .inr (.inr (.inr (.inl (fun _ => 0)))))), (q5, .inl (k5, 8, .inl (fun _ => 0))), (q6, .inl (k6, 4, .inr (.inr (.inr (.inl (fun _ => 0))))))] := hD
  have hK : va_K (dC, dI) cls [(k1, .double), (k2, .int), (k3, .double), (k4, .double), (k5, .boolean), (k6, .double)] s := hK
  refine W.widen (k := 6) (n := 193) (Nat.le_of_ble_eq_true rfl) (Nat.le_of_ble_eq_true rfl) ?_
  refine va_putF (D := (dC, dI)) (ci := 3) (v := .ref q6) (ty := .array .double) (C := "MashEnzymesModel") (T := F_N) (N := 14) hx hb hts in_N t_N t_N_ok n_N hown hK hP hD hS 0 rfl rfl 13 (by decide) (hts _ tw_f_N_27) (fun _ h9 => h9) rfl hnm rfl (by decide +kernel) rfl rfl (Nat.le_of_ble_eq_true rfl) dN_init_48 (fun H locs hP hD hS => ?_)
  have hP : va_P (dC, dI) cls [(h0, .inr (3, [.ref q1, .double 0, .double 0, .int 0, .int 0, .double 0, .int 0, .int 0, .ref q2, .ref q3, .int 0, .ref q4, .ref q5, .ref q6])), (q1, .inl (k1, 13, .inr (.inr (.inr (.inl (fun _ => 0)))))), (q2, .inl (k2, 32, .inl (fun _ => 0))), (q3, .inl (k3, 32, .inr (.inr (.inr (.inl (fun _ => 0)))))), (q4, .inl (k4, 104, .inr (.inr (.inr (.inl (fun _ => 0)))))), (q5, .inl (k5, 8, .inl (fun _ => 0))), (q6, .inl (k6, 4, .inr (.inr (.inr (.inl (fun _ => 0))))))] H := hP
  have hD : va_D A [(h0, .inr (3, [.ref q1, .double 0, .double 0, .int 0, .int 0, .double 0, .int 0, .int 0, .ref q2, .ref q3, .int 0, .ref q4, .ref q5, .ref q6])), (q1, .inl (k1, 13, .inr (.inr (.inr (.inl (fun _ => 0)))))), (q2, .inl (k2, 32, .inl (fun _ => 0))), (q3, .inl (k3, 32, .inr (.inr (.inr (.inl (fun _ => 0)))))), (q4, .inl (k4, 104, .inr (.inr (.inr (.inl (fun _ => 0)))))), (q5, .inl (k5, 8, .inl (fun _ => 0))), (q6, .inl (k6, 4, .inr (.inr (.inr (.inl (fun _ => 0))))))] := hD
  have hP9 : va_P (dC, dI) cls (wN (fun n => [h0, q1, q2, q3, q4, q5, q6].getD n 0) (fun n => [k1, k2, k3, k4, k5, k6].getD n k1) (fun _ => 0) 0 0 0 0 0 0 0 (fun _ => 0) (fun _ => 0) 0 (fun _ => 0) (fun _ => 0) (fun _ => 0)) H := hP
  have hD9 : va_D A (wN (fun n => [h0, q1, q2, q3, q4, q5, q6].getD n 0) (fun n => [k1, k2, k3, k4, k5, k6].getD n k1) (fun _ => 0) 0 0 0 0 0 0 0 (fun _ => 0) (fun _ => 0) 0 (fun _ => 0) (fun _ => 0) (fun _ => 0)) := hD
  have hK9 : va_K (dC, dI) cls (tN (fun n => [k1, k2, k3, k4, k5, k6].getD n k1)) s := hK
  exact W.vret hx hb hr (fun t ht hW => ⟨⟨((fun n => [h0, q1, q2, q3, q4, q5, q6].getD n 0), (fun n => [k1, k2, k3, k4, k5, k6].getD n k1)), rfl, rfl, by rw [ht]; exact hP9, va_K.moved hW.alike hK9, hD9⟩, hS.F ht⟩) hS.2.2 dN_init_51 hlocks
/-- the mash's addresses: ten, and the decoctions' rows -/
def adM (q : List Nat) (r : Nat → Nat) : Nat → Nat
  | 0 => q.getD 0 0
  | 1 => q.getD 1 0
  | 2 => q.getD 2 0
  | 3 => q.getD 3 0
  | 4 => q.getD 4 0
  | 5 => q.getD 5 0
  | 6 => q.getD 6 0
  | 7 => q.getD 7 0
  | 8 => q.getD 8 0
  | 9 => q.getD 9 0
  | n + 10 => r n
def inP (dC : Nat → ClassId) (dI : Nat → Nat → Nat) (tt : Nat → Nat) (w : va_W) (sz : Nat) (U : State) : Prop := ctP dC dI tt [] w sz U ∧ va_Nw (.methodLinkNest "MashEnzymes" 27 yH_init "MashEnzymes") U ∧ va_AOA .double U
set_option maxHeartbeats 4000000 in
set_option maxRecDepth 100000 in
/-- MashEnzymes() -/
theorem cM_init (l : Launch) (dC : Nat → ClassId) (dI : Nat → Nat → Nat) (tt : Nat → Nat) (sz : Nat) (h0 : Nat) : Met l yM_init (.code yM_init bM_init 1 none :: wT) ({ frames := 5, cells := 17, slots := 216, locals := 113 }) (va_Pc [.ref h0] (inP dC dI tt [(h0, .inr (0, [.null, .null, .null, .null, .null, .null, .int 0, .int 0, .double 0, .double 0, .double 0, .int 0, .int 0]))] sz)) (va_Qv (fun u : (Nat → Nat) × (Nat → ClassId) => u.1 0 = h0) (fun u t => ctB dC dI (tM u.2) (wM u.1 u.2 (fun _ => 0) (fun _ => (fun _ => 0)) (fun _ => 0) (fun _ => 0) (fun _ => 0) (fun _ => 0) 0 0 (rwA 0 9 (fun _ => 0)) 0 0 0 0 0 0 0 0) (va_A [(h0, .inr (0, [.null, .null, .null, .null, .null, .null, .int 0, .int 0, .double 0, .double 0, .double 0, .int 0, .int 0]))] sz) t) (va_A [(h0, .inr (0, [.null, .null, .null, .null, .null, .null, .int 0, .int 0, .double 0, .double 0, .double 0, .int 0, .int 0]))] sz)) 17 216 (va_A [(h0, .inr (0, [.null, .null, .null, .null, .null, .null, .int 0, .int 0, .double 0, .double 0, .double 0, .int 0, .int 0]))] sz) := by
  refine Met.ofW (cc := bM_init) (maxL := 1) (ret := none) (by decide) rfl ?_
  intro p e s m args below meth c s₁ B hml hv
  obtain ⟨rfl, ⟨hsz, hP, hK, hD0, hT⟩, hNw, hAO⟩ := hv
  have hx := B.exec
  have hb := B.bytes
  have hr := B.returns
  have hts0 := atoms_spec (ws := .code yM_init bM_init 1 none :: wT) B.pre
  have hts : ∀ x ∈ wT, x.before ([.ref h0] : List Value).toArray s = true := fun x hx => hts0 x (List.mem_cons_of_mem _ hx)
  have hown : s.vm.findClass "MashEnzymes" = some m.cls := findClass_of_methodNamed B.named
  have hlocks := B.notSynchronized
  have hnm : meth.name = "<init>" := (name_of_methodNamed B.named B.method).1
  subst hsz
  have hD := hD0.self (sz := s.heap.size)
  generalize hAe : va_A [(h0, .inr (0, [.null, .null, .null, .null, .null, .null, .int 0, .int 0, .double 0, .double 0, .double 0, .int 0, .int 0]))] s.heap.size = A at hD hT ⊢
  have hA : ∀ q : Nat, s.heap.size ≤ q → A q := fun q h => by rw [← hAe]; exact Or.inr h
  have hS : va_S A s.heap s.heap [] := va_S.rf
  have hl := lv_entry ([.ref h0]) (n := 1) (Nat.le_of_ble_eq_true rfl)
  rw [lg_entry_eq]
  generalize (lg_sl ([.ref h0]) ++ List.replicate (1 - (lg_sl ([.ref h0])).length) Slot.unset).toArray = ls at hl ⊢
  have hl : lv_has ls 1 [(0, .ref h0)] := hl
  refine lv_aload_n hx hb dM_init_0 rfl (lv_at hl 0 rfl) ?_
  refine W.objInit hx hb hown (hts _ tw_m_M_3) (hts _ tw_i_objectInit) (hts _ tw_c_objectInit) rfl (by rw [hml]; exact hl.1) rfl dM_init_1 (Nat.le_of_ble_eq_true rfl) (Nat.le_of_ble_eq_true rfl) ?_
  refine W.eq (g2 := F0 m 4 ls []) rfl ?_
  refine lv_aload_n hx hb dM_init_4 rfl (lv_at hl 0 rfl) ?_
  refine lv_bipush (v := 13) hx hb dM_init_5 (by decide) ?_
  refine va_newa (atype := .double) (N' := 13) (a0 := (13, .inr (.inr (.inr (.inl (fun _ => 0)))))) (ty := .double) (n := 13) hx hb (hts _ tw_a_double) rfl hK hP hD hS hA (fun _ => rfl) (by decide) (by decide) (by decide) (Nat.le_of_ble_eq_true rfl) (Nat.le_of_ble_eq_true rfl) dM_init_7 (fun q1 k1 H hK hP hD hS => ?_)
  have hP : va_P (dC, dI) cls [(h0, .inr (0, [.null, .null, .null, .null, .null, .null, .int 0, .int 0, .double 0, .double 0, .double 0, .int 0, .int 0])), (q1, .inl (k1, 13, .inr (.inr (.inr (.inl (fun _ => 0))))))] H := hP
  have hD : va_D A [(h0, .inr (0, [.null, .null, .null, .null, .null, .null, .int 0, .int 0, .double 0, .double 0, .double 0, .int 0, .int 0])), (q1, .inl (k1, 13, .inr (.inr (.inr (.inl (fun _ => 0))))))] := hD
  have hK : va_K (dC, dI) cls [(k1, .double)] s := hK
  refine W.widen (k := 1) (n := 13) (Nat.le_of_ble_eq_true rfl) (Nat.le_of_ble_eq_true rfl) ?_
  refine va_putF (D := (dC, dI)) (ci := 0) (v := .ref q1) (ty := .array .double) (C := "MashEnzymes") (T := F_M) (N := 13) hx hb hts in_M t_M t_M_ok n_M hown hK hP hD hS 0 rfl rfl 0 (by decide) (hts _ tw_f_M_9) (fun _ h9 => h9) rfl hnm rfl (by decide +kernel) rfl rfl (Nat.le_of_ble_eq_true rfl) dM_init_9 (fun H locs hP hD hS => ?_)
  have hP : va_P (dC, dI) cls [(h0, .inr (0, [.ref q1, .null, .null, .null, .null, .null, .int 0, .int 0, .double 0, .double 0, .double 0, .int 0, .int 0])), (q1, .inl (k1, 13, .inr (.inr (.inr (.inl (fun _ => 0))))))] H := hP
  have hD : va_D A [(h0, .inr (0, [.ref q1, .null, .null, .null, .null, .null, .int 0, .int 0, .double 0, .double 0, .double 0, .int 0, .int 0])), (q1, .inl (k1, 13, .inr (.inr (.inr (.inl (fun _ => 0))))))] := hD
  refine lv_aload_n hx hb dM_init_12 rfl (lv_at hl 0 rfl) ?_
  refine lv_bipush (v := 8) hx hb dM_init_13 (by decide) ?_
  refine lv_bipush (v := 13) hx hb dM_init_15 (by decide) ?_
  have hcy : s.vm.findClass (FieldType.array .double).toString = some k1 := (hK.2 0 _ rfl).2
  refine va_mna (X := [(h0, .inr (0, [.ref q1, .null, .null, .null, .null, .null, .int 0, .int 0, .double 0, .double 0, .double 0, .int 0, .int 0])), (q1, .inl (k1, 13, .inr (.inr (.inr (.inl (fun _ => 0))))))]) (L := []) (f := fun _ => .inr (0, [])) (ty := .double) (cy := k1) (N' := 8) (K' := 13) (z := (13, .inr (.inr (.inr (.inl (fun _ => 0)))))) hx hb hown (by rw [show ("[" ++ (FieldType.array .double).toString) = "[[D" by decide +kernel]; exact hts _ tw_cl_M_13) hAO (hts _ tw_a_double) hcy hK hP hD hS hA (by decide) (by decide) (by decide) (by decide) (by decide) (by decide) (by decide) rfl rfl (Nat.le_of_ble_eq_true rfl) (Nat.le_of_ble_eq_true rfl) (fun _ => arrV_new _ _ _) dM_init_17 (fun q2 r k2 H hr1 hr2 hK hP hD hS => ?_)
  rw [← vr_rows (fun a _ => List.not_mem_nil)] at hP hD
  have hP : va_P (dC, dI) cls [(h0, .inr (0, [.ref q1, .null, .null, .null, .null, .null, .int 0, .int 0, .double 0, .double 0, .double 0, .int 0, .int 0])), (q1, .inl (k1, 13, .inr (.inr (.inr (.inl (fun _ => 0)))))), (q2, .inl (k2, 8, .inr (.inr (.inr (.inr (fun i => if i < 8 then some (r i) else none)))))), ((r 0), .inl (k1, 13, .inr (.inr (.inr (.inl (fun _ => 0)))))), ((r 1), .inl (k1, 13, .inr (.inr (.inr (.inl (fun _ => 0)))))), ((r 2), .inl (k1, 13, .inr (.inr (.inr (.inl (fun _ => 0)))))), ((r 3), .inl (k1, 13, .inr (.inr (.inr (.inl (fun _ => 0)))))), ((r 4), .inl (k1, 13, .inr (.inr (.inr (.inl (fun _ => 0)))))), ((r 5), .inl (k1, 13, .inr (.inr (.inr (.inl (fun _ => 0)))))), ((r 6), .inl (k1, 13, .inr (.inr (.inr (.inl (fun _ => 0)))))), ((r 7), .inl (k1, 13, .inr (.inr (.inr (.inl (fun _ => 0))))))] H := hP
  have hD : va_D A [(h0, .inr (0, [.ref q1, .null, .null, .null, .null, .null, .int 0, .int 0, .double 0, .double 0, .double 0, .int 0, .int 0])), (q1, .inl (k1, 13, .inr (.inr (.inr (.inl (fun _ => 0)))))), (q2, .inl (k2, 8, .inr (.inr (.inr (.inr (fun i => if i < 8 then some (r i) else none)))))), ((r 0), .inl (k1, 13, .inr (.inr (.inr (.inl (fun _ => 0)))))), ((r 1), .inl (k1, 13, .inr (.inr (.inr (.inl (fun _ => 0)))))), ((r 2), .inl (k1, 13, .inr (.inr (.inr (.inl (fun _ => 0)))))), ((r 3), .inl (k1, 13, .inr (.inr (.inr (.inl (fun _ => 0)))))), ((r 4), .inl (k1, 13, .inr (.inr (.inr (.inl (fun _ => 0)))))), ((r 5), .inl (k1, 13, .inr (.inr (.inr (.inl (fun _ => 0)))))), ((r 6), .inl (k1, 13, .inr (.inr (.inr (.inl (fun _ => 0)))))), ((r 7), .inl (k1, 13, .inr (.inr (.inr (.inl (fun _ => 0))))))] := hD
  have hK : va_K (dC, dI) cls [(k1, .double), (k2, .array .double)] s := hK
  refine W.widen (k := 10) (n := 125) (Nat.le_of_ble_eq_true rfl) (Nat.le_of_ble_eq_true rfl) ?_
  refine va_putF (D := (dC, dI)) (ci := 0) (v := .ref q2) (ty := .array (.array .double)) (C := "MashEnzymes") (T := F_M) (N := 13) hx hb hts in_M t_M t_M_ok n_M hown hK hP hD hS 0 rfl rfl 1 (by decide) (hts _ tw_f_M_15) (fun _ h9 => h9) rfl hnm rfl (by decide +kernel) rfl rfl (Nat.le_of_ble_eq_true rfl) dM_init_21 (fun H locs hP hD hS => ?_)
  have hP : va_P (dC, dI) cls [(h0, .inr (0, [.ref q1, .ref q2, .null, .null, .null, .null, .int 0, .int 0, .double 0, .double 0, .double 0, .int 0, .int 0])), (q1, .inl (k1, 13, .inr (.inr (.inr (.inl (fun _ => 0)))))), (q2, .inl (k2, 8, .inr (.inr (.inr (.inr (fun i => if i < 8 then some (r i) else none)))))), ((r 0), .inl (k1, 13, .inr (.inr (.inr (.inl (fun _ => 0)))))), ((r 1), .inl (k1, 13, .inr (.inr (.inr (.inl (fun _ => 0)))))), ((r 2), .inl (k1, 13, .inr (.inr (.inr (.inl (fun _ => 0)))))), ((r 3), .inl (k1, 13, .inr (.inr (.inr (.inl (fun _ => 0)))))), ((r 4), .inl (k1, 13, .inr (.inr (.inr (.inl (fun _ => 0)))))), ((r 5), .inl (k1, 13, .inr (.inr (.inr (.inl (fun _ => 0)))))), ((r 6), .inl (k1, 13, .inr (.inr (.inr (.inl (fun _ => 0)))))), ((r 7), .inl (k1, 13, .inr (.inr (.inr (.inl (fun _ => 0))))))] H := hP
  have hD : va_D A [(h0, .inr (0, [.ref q1, .ref q2, .null, .null, .null, .null, .int 0, .int 0, .double 0, .double 0, .double 0, .int 0, .int 0])), (q1, .inl (k1, 13, .inr (.inr (.inr (.inl (fun _ => 0)))))), (q2, .inl (k2, 8, .inr (.inr (.inr (.inr (fun i => if i < 8 then some (r i) else none)))))), ((r 0), .inl (k1, 13, .inr (.inr (.inr (.inl (fun _ => 0)))))), ((r 1), .inl (k1, 13, .inr (.inr (.inr (.inl (fun _ => 0)))))), ((r 2), .inl (k1, 13, .inr (.inr (.inr (.inl (fun _ => 0)))))), ((r 3), .inl (k1, 13, .inr (.inr (.inr (.inl (fun _ => 0)))))), ((r 4), .inl (k1, 13, .inr (.inr (.inr (.inl (fun _ => 0)))))), ((r 5), .inl (k1, 13, .inr (.inr (.inr (.inl (fun _ => 0)))))), ((r 6), .inl (k1, 13, .inr (.inr (.inr (.inl (fun _ => 0)))))), ((r 7), .inl (k1, 13, .inr (.inr (.inr (.inl (fun _ => 0))))))] := hD
  refine lv_aload_n hx hb dM_init_24 rfl (lv_at hl 0 rfl) ?_
  refine lv_bipush (v := 8) hx hb dM_init_25 (by decide) ?_
  refine va_newa (atype := .boolean) (N' := 8) (a0 := (8, .inl (fun _ => 0))) (ty := .boolean) (n := 8) hx hb (hts _ tw_a_boolean) rfl hK hP hD hS hA (fun _ => rfl) (by decide) (by decide) (by decide) (Nat.le_of_ble_eq_true rfl) (Nat.le_of_ble_eq_true rfl) dM_init_27 (fun q3 k3 H hK hP hD hS => ?_)
  have hP : va_P (dC, dI) cls [(h0, .inr (0, [.ref q1, .ref q2, .null, .null, .null, .null, .int 0, .int 0, .double 0, .double 0, .double 0, .int 0, .int 0])), (q1, .inl (k1, 13, .inr (.inr (.inr (.inl (fun _ => 0)))))), (q2, .inl (k2, 8, .inr (.inr (.inr (.inr (fun i => if i < 8 then some (r i) else none)))))), ((r 0), .inl (k1, 13, .inr (.inr (.inr (.inl (fun _ => 0)))))), ((r 1), .inl (k1, 13, .inr (.inr (.inr (.inl (fun _ => 0)))))), ((r 2), .inl (k1, 13, .inr (.inr (.inr (.inl (fun _ => 0)))))), ((r 3), .inl (k1, 13, .inr (.inr (.inr (.inl (fun _ => 0)))))), ((r 4), .inl (k1, 13, .inr (.inr (.inr (.inl (fun _ => 0)))))), ((r 5), .inl (k1, 13, .inr (.inr (.inr (.inl (fun _ => 0)))))), ((r 6), .inl (k1, 13, .inr (.inr (.inr (.inl (fun _ => 0)))))), ((r 7), .inl (k1, 13, .inr (.inr (.inr (.inl (fun _ => 0)))))), (q3, .inl (k3, 8, .inl (fun _ => 0)))] H := hP
  have hD : va_D A [(h0, .inr (0, [.ref q1, .ref q2, .null, .null, .null, .null, .int 0, .int 0, .double 0, .double 0, .double 0, .int 0, .int 0])), (q1, .inl (k1, 13, .inr (.inr (.inr (.inl (fun _ => 0)))))), (q2, .inl (k2, 8, .inr (.inr (.inr (.inr (fun i => if i < 8 then some (r i) else none)))))), ((r 0), .inl (k1, 13, .inr (.inr (.inr (.inl (fun _ => 0)))))), ((r 1), .inl (k1, 13, .inr (.inr (.inr (.inl (fun _ => 0)))))), ((r 2), .inl (k1, 13, .inr (.inr (.inr (.inl (fun _ => 0)))))), ((r 3), .inl (k1, 13, .inr (.inr (.inr (.inl (fun _ => 0)))))), ((r 4), .inl (k1, 13, .inr (.inr (.inr (.inl (fun _ => 0)))))), ((r 5), .inl (k1, 13, .inr (.inr (.inr (.inl (fun _ => 0)))))), ((r 6), .inl (k1, 13, .inr (.inr (.inr (.inl (fun _ => 0)))))), ((r 7), .inl (k1, 13, .inr (.inr (.inr (.inl (fun _ => 0)))))), (q3, .inl (k3, 8, .inl (fun _ => 0)))] := hD
  have hK : va_K (dC, dI) cls [(k1, .double), (k2, .array .double), (k3, .boolean)] s := hK
  refine W.widen (k := 11) (n := 133) (Nat.le_of_ble_eq_true rfl) (Nat.le_of_ble_eq_true rfl) ?_
  refine va_putF (D := (dC, dI)) (ci := 0) (v := .ref q3) (ty := .array .boolean) (C := "MashEnzymes") (T := F_M) (N := 13) hx hb hts in_M t_M t_M_ok n_M hown hK hP hD hS 0 rfl rfl 2 (by decide) (hts _ tw_f_M_18) (fun _ h9 => h9) rfl hnm rfl (by decide +kernel) rfl rfl (Nat.le_of_ble_eq_true rfl) dM_init_29 (fun H locs hP hD hS => ?_)
  have hP : va_P (dC, dI) cls [(h0, .inr (0, [.ref q1, .ref q2, .ref q3, .null, .null, .null, .int 0, .int 0, .double 0, .double 0, .double 0, .int 0, .int 0])), (q1, .inl (k1, 13, .inr (.inr (.inr (.inl (fun _ => 0)))))), (q2, .inl (k2, 8, .inr (.inr (.inr (.inr (fun i => if i < 8 then some (r i) else none)))))), ((r 0), .inl (k1, 13, .inr (.inr (.inr (.inl (fun _ => 0)))))), ((r 1), .inl (k1, 13, .inr (.inr (.inr (.inl (fun _ => 0)))))), ((r 2), .inl (k1, 13, .inr (.inr (.inr (.inl (fun _ => 0)))))), ((r 3), .inl (k1, 13, .inr (.inr (.inr (.inl (fun _ => 0)))))), ((r 4), .inl (k1, 13, .inr (.inr (.inr (.inl (fun _ => 0)))))), ((r 5), .inl (k1, 13, .inr (.inr (.inr (.inl (fun _ => 0)))))), ((r 6), .inl (k1, 13, .inr (.inr (.inr (.inl (fun _ => 0)))))), ((r 7), .inl (k1, 13, .inr (.inr (.inr (.inl (fun _ => 0)))))), (q3, .inl (k3, 8, .inl (fun _ => 0)))] H := hP
  have hD : va_D A [(h0, .inr (0, [.ref q1, .ref q2, .ref q3, .null, .null, .null, .int 0, .int 0, .double 0, .double 0, .double 0, .int 0, .int 0])), (q1, .inl (k1, 13, .inr (.inr (.inr (.inl (fun _ => 0)))))), (q2, .inl (k2, 8, .inr (.inr (.inr (.inr (fun i => if i < 8 then some (r i) else none)))))), ((r 0), .inl (k1, 13, .inr (.inr (.inr (.inl (fun _ => 0)))))), ((r 1), .inl (k1, 13, .inr (.inr (.inr (.inl (fun _ => 0)))))), ((r 2), .inl (k1, 13, .inr (.inr (.inr (.inl (fun _ => 0)))))), ((r 3), .inl (k1, 13, .inr (.inr (.inr (.inl (fun _ => 0)))))), ((r 4), .inl (k1, 13, .inr (.inr (.inr (.inl (fun _ => 0)))))), ((r 5), .inl (k1, 13, .inr (.inr (.inr (.inl (fun _ => 0)))))), ((r 6), .inl (k1, 13, .inr (.inr (.inr (.inl (fun _ => 0)))))), ((r 7), .inl (k1, 13, .inr (.inr (.inr (.inl (fun _ => 0)))))), (q3, .inl (k3, 8, .inl (fun _ => 0)))] := hD
  refine lv_aload_n hx hb dM_init_32 rfl (lv_at hl 0 rfl) ?_
  refine lv_iconst (v := 4) hx hb dM_init_33 (by decide) ?_
  refine va_newa (atype := .double) (N' := 4) (a0 := (4, .inr (.inr (.inr (.inl (fun _ => 0)))))) (ty := .double) (n := 4) hx hb (hts _ tw_a_double) rfl hK hP hD hS hA (fun _ => rfl) (by decide) (by decide) (by decide) (Nat.le_of_ble_eq_true rfl) (Nat.le_of_ble_eq_true rfl) dM_init_34 (fun q4 k4 H hK hP hD hS => ?_)
  have hP : va_P (dC, dI) cls [(h0, .inr (0, [.ref q1, .ref q2, .ref q3, .null, .null, .null, .int 0, .int 0, .double 0, .double 0, .double 0, .int 0, .int 0])), (q1, .inl (k1, 13, .inr (.inr (.inr (.inl (fun _ => 0)))))), (q2, .inl (k2, 8, .inr (.inr (.inr (.inr (fun i => if i < 8 then some (r i) else none)))))), ((r 0), .inl (k1, 13, .inr (.inr (.inr (.inl (fun _ => 0)))))), ((r 1), .inl (k1, 13, .inr (.inr (.inr (.inl (fun _ => 0)))))), ((r 2), .inl (k1, 13, .inr (.inr (.inr (.inl (fun _ => 0)))))), ((r 3), .inl (k1, 13, .inr (.inr (.inr (.inl (fun _ => 0)))))), ((r 4), .inl (k1, 13, .inr (.inr (.inr (.inl (fun _ => 0)))))), ((r 5), .inl (k1, 13, .inr (.inr (.inr (.inl (fun _ => 0)))))), ((r 6), .inl (k1, 13, .inr (.inr (.inr (.inl (fun _ => 0)))))), ((r 7), .inl (k1, 13, .inr (.inr (.inr (.inl (fun _ => 0)))))), (q3, .inl (k3, 8, .inl (fun _ => 0))), (q4, .inl (k4, 4, .inr (.inr (.inr (.inl (fun _ => 0))))))] H := hP
  have hD : va_D A [(h0, .inr (0, [.ref q1, .ref q2, .ref q3, .null, .null, .null, .int 0, .int 0, .double 0, .double 0, .double 0, .int 0, .int 0])), (q1, .inl (k1, 13, .inr (.inr (.inr (.inl (fun _ => 0)))))), (q2, .inl (k2, 8, .inr (.inr (.inr (.inr (fun i => if i < 8 then some (r i) else none)))))), ((r 0), .inl (k1, 13, .inr (.inr (.inr (.inl (fun _ => 0)))))), ((r 1), .inl (k1, 13, .inr (.inr (.inr (.inl (fun _ => 0)))))), ((r 2), .inl (k1, 13, .inr (.inr (.inr (.inl (fun _ => 0)))))), ((r 3), .inl (k1, 13, .inr (.inr (.inr (.inl (fun _ => 0)))))), ((r 4), .inl (k1, 13, .inr (.inr (.inr (.inl (fun _ => 0)))))), ((r 5), .inl (k1, 13, .inr (.inr (.inr (.inl (fun _ => 0)))))), ((r 6), .inl (k1, 13, .inr (.inr (.inr (.inl (fun _ => 0)))))), ((r 7), .inl (k1, 13, .inr (.inr (.inr (.inl (fun _ => 0)))))), (q3, .inl (k3, 8, .inl (fun _ => 0))), (q4, .inl (k4, 4, .inr (.inr (.inr (.inl (fun _ => 0))))))] := hD
  have hK : va_K (dC, dI) cls [(k1, .double), (k2, .array .double), (k3, .boolean), (k4, .double)] s := hK
  refine W.widen (k := 12) (n := 137) (Nat.le_of_ble_eq_true rfl) (Nat.le_of_ble_eq_true rfl) ?_
  refine va_putF (D := (dC, dI)) (ci := 0) (v := .ref q4) (ty := .array .double) (C := "MashEnzymes") (T := F_M) (N := 13) hx hb hts in_M t_M t_M_ok n_M hown hK hP hD hS 0 rfl rfl 3 (by decide) (hts _ tw_f_M_22) (fun _ h9 => h9) rfl hnm rfl (by decide +kernel) rfl rfl (Nat.le_of_ble_eq_true rfl) dM_init_36 (fun H locs hP hD hS => ?_)
  have hP : va_P (dC, dI) cls [(h0, .inr (0, [.ref q1, .ref q2, .ref q3, .ref q4, .null, .null, .int 0, .int 0, .double 0, .double 0, .double 0, .int 0, .int 0])), (q1, .inl (k1, 13, .inr (.inr (.inr (.inl (fun _ => 0)))))), (q2, .inl (k2, 8, .inr (.inr (.inr (.inr (fun i => if i < 8 then some (r i) else none)))))), ((r 0), .inl (k1, 13, .inr (.inr (.inr (.inl (fun _ => 0)))))), ((r 1), .inl (k1, 13, .inr (.inr (.inr (.inl (fun _ => 0)))))), ((r 2), .inl (k1, 13, .inr (.inr (.inr (.inl (fun _ => 0)))))), ((r 3), .inl (k1, 13, .inr (.inr (.inr (.inl (fun _ => 0)))))), ((r 4), .inl (k1, 13, .inr (.inr (.inr (.inl (fun _ => 0)))))), ((r 5), .inl (k1, 13, .inr (.inr (.inr (.inl (fun _ => 0)))))), ((r 6), .inl (k1, 13, .inr (.inr (.inr (.inl (fun _ => 0)))))), ((r 7), .inl (k1, 13, .inr (.inr (.inr (.inl (fun _ => 0)))))), (q3, .inl (k3, 8, .inl (fun _ => 0))), (q4, .inl (k4, 4, .inr (.inr (.inr (.inl (fun _ => 0))))))] H := hP
  have hD : va_D A [(h0, .inr (0, [.ref q1, .ref q2, .ref q3, .ref q4, .null, .null, .int 0, .int 0, .double 0, .double 0, .double 0, .int 0, .int 0])), (q1, .inl (k1, 13, .inr (.inr (.inr (.inl (fun _ => 0)))))), (q2, .inl (k2, 8, .inr (.inr (.inr (.inr (fun i => if i < 8 then some (r i) else none)))))), ((r 0), .inl (k1, 13, .inr (.inr (.inr (.inl (fun _ => 0)))))), ((r 1), .inl (k1, 13, .inr (.inr (.inr (.inl (fun _ => 0)))))), ((r 2), .inl (k1, 13, .inr (.inr (.inr (.inl (fun _ => 0)))))), ((r 3), .inl (k1, 13, .inr (.inr (.inr (.inl (fun _ => 0)))))), ((r 4), .inl (k1, 13, .inr (.inr (.inr (.inl (fun _ => 0)))))), ((r 5), .inl (k1, 13, .inr (.inr (.inr (.inl (fun _ => 0)))))), ((r 6), .inl (k1, 13, .inr (.inr (.inr (.inl (fun _ => 0)))))), ((r 7), .inl (k1, 13, .inr (.inr (.inr (.inl (fun _ => 0)))))), (q3, .inl (k3, 8, .inl (fun _ => 0))), (q4, .inl (k4, 4, .inr (.inr (.inr (.inl (fun _ => 0))))))] := hD
  refine lv_aload_n hx hb dM_init_39 rfl (lv_at hl 0 rfl) ?_
  refine va_new (ci := 1) (fs := [.null, .null, .int 0, .int 0]) (C := "MashEnzymes$Heating") (T := F_H) (N := 4) hx hb hts in_H t_H t_H_ok hown (hts _ tw_cl_M_25) (hts _ tw_n_H) (hts _ tw_I_H) hK hP hD hS hA rfl (fun j hj => by rcases (show j = 0 ∨ j = 1 ∨ j = 2 ∨ j = 3 by omega) with rfl | rfl | rfl | rfl <;> rfl) (Nat.le_of_ble_eq_true rfl) (Nat.le_of_ble_eq_true rfl) dM_init_40 (fun qh H hP hD hS => ?_)
  have hP : va_P (dC, dI) cls [(h0, .inr (0, [.ref q1, .ref q2, .ref q3, .ref q4, .null, .null, .int 0, .int 0, .double 0, .double 0, .double 0, .int 0, .int 0])), (q1, .inl (k1, 13, .inr (.inr (.inr (.inl (fun _ => 0)))))), (q2, .inl (k2, 8, .inr (.inr (.inr (.inr (fun i => if i < 8 then some (r i) else none)))))), ((r 0), .inl (k1, 13, .inr (.inr (.inr (.inl (fun _ => 0)))))), ((r 1), .inl (k1, 13, .inr (.inr (.inr (.inl (fun _ => 0)))))), ((r 2), .inl (k1, 13, .inr (.inr (.inr (.inl (fun _ => 0)))))), ((r 3), .inl (k1, 13, .inr (.inr (.inr (.inl (fun _ => 0)))))), ((r 4), .inl (k1, 13, .inr (.inr (.inr (.inl (fun _ => 0)))))), ((r 5), .inl (k1, 13, .inr (.inr (.inr (.inl (fun _ => 0)))))), ((r 6), .inl (k1, 13, .inr (.inr (.inr (.inl (fun _ => 0)))))), ((r 7), .inl (k1, 13, .inr (.inr (.inr (.inl (fun _ => 0)))))), (q3, .inl (k3, 8, .inl (fun _ => 0))), (q4, .inl (k4, 4, .inr (.inr (.inr (.inl (fun _ => 0)))))), (qh, .inr (1, [.null, .null, .int 0, .int 0]))] H := hP
  have hD : va_D A [(h0, .inr (0, [.ref q1, .ref q2, .ref q3, .ref q4, .null, .null, .int 0, .int 0, .double 0, .double 0, .double 0, .int 0, .int 0])), (q1, .inl (k1, 13, .inr (.inr (.inr (.inl (fun _ => 0)))))), (q2, .inl (k2, 8, .inr (.inr (.inr (.inr (fun i => if i < 8 then some (r i) else none)))))), ((r 0), .inl (k1, 13, .inr (.inr (.inr (.inl (fun _ => 0)))))), ((r 1), .inl (k1, 13, .inr (.inr (.inr (.inl (fun _ => 0)))))), ((r 2), .inl (k1, 13, .inr (.inr (.inr (.inl (fun _ => 0)))))), ((r 3), .inl (k1, 13, .inr (.inr (.inr (.inl (fun _ => 0)))))), ((r 4), .inl (k1, 13, .inr (.inr (.inr (.inl (fun _ => 0)))))), ((r 5), .inl (k1, 13, .inr (.inr (.inr (.inl (fun _ => 0)))))), ((r 6), .inl (k1, 13, .inr (.inr (.inr (.inl (fun _ => 0)))))), ((r 7), .inl (k1, 13, .inr (.inr (.inr (.inl (fun _ => 0)))))), (q3, .inl (k3, 8, .inl (fun _ => 0))), (q4, .inl (k4, 4, .inr (.inr (.inr (.inl (fun _ => 0)))))), (qh, .inr (1, [.null, .null, .int 0, .int 0]))] := hD
  refine W.widen (k := 13) (n := 141) (Nat.le_of_ble_eq_true rfl) (Nat.le_of_ble_eq_true rfl) ?_
  refine lv_dup hx hb dM_init_43 rfl ?_
  have hFc := va_free (wc := [(qh, .inr (1, [.null, .null, .int 0, .int 0]))]) hD hS hA [13] rfl
  refine va_callv (va_runIN (As := []) (rest := [.ref qh, .ref h0]) ⟨hx, hb, hml, hown, hts⟩ (cH_init l dC dI tt H.size qh) (⟨va_cnB 0 hts (gT_I tw_c_yH_init) rfl rfl rfl hNw (hts _ tw_I_H) (by decide +kernel) ⟨by decide, by decide⟩, rfl, hts _ tw_i_yH_init⟩) ⟨ct_blind, fun U hU hW => ct_pre (isC := [13]) (tyi := []) hP hD hK hS hA hT (by decide) rfl rfl U hU hW⟩ rfl rfl hl.1 rfl (lv_room (Nat.le_of_ble_eq_true rfl)) dM_init_44 ⟨Nat.le_of_ble_eq_true rfl, Nat.le_of_ble_eq_true rfl⟩) hS (fun q _ h => hFc q h) hFc (fun u t H1 locs ht hvm hw hB hz1 hk1 hS => ?_)
  obtain ⟨q6, q7, k6, k7⟩ := u
  obtain ⟨hP1, hK1, hD1⟩ := hB
  rw [ht] at hP1
  have hK1 := va_K.moved hvm.symm hK1
  obtain ⟨hP, hD⟩ := va_join (wr := [(h0, .inr (0, [.ref q1, .ref q2, .ref q3, .ref q4, .null, .null, .int 0, .int 0, .double 0, .double 0, .double 0, .int 0, .int 0])), (q1, .inl (k1, 13, .inr (.inr (.inr (.inl (fun _ => 0)))))), (q2, .inl (k2, 8, .inr (.inr (.inr (.inr (fun i => if i < 8 then some (r i) else none)))))), ((r 0), .inl (k1, 13, .inr (.inr (.inr (.inl (fun _ => 0)))))), ((r 1), .inl (k1, 13, .inr (.inr (.inr (.inl (fun _ => 0)))))), ((r 2), .inl (k1, 13, .inr (.inr (.inr (.inl (fun _ => 0)))))), ((r 3), .inl (k1, 13, .inr (.inr (.inr (.inl (fun _ => 0)))))), ((r 4), .inl (k1, 13, .inr (.inr (.inr (.inl (fun _ => 0)))))), ((r 5), .inl (k1, 13, .inr (.inr (.inr (.inl (fun _ => 0)))))), ((r 6), .inl (k1, 13, .inr (.inr (.inr (.inl (fun _ => 0)))))), ((r 7), .inl (k1, 13, .inr (.inr (.inr (.inl (fun _ => 0)))))), (q3, .inl (k3, 8, .inl (fun _ => 0))), (q4, .inl (k4, 4, .inr (.inr (.inr (.inl (fun _ => 0))))))]) (w1 := [(qh, .inr (1, [.ref q6, .ref q7, .int 0, .int 0])), (q6, .inl (k6, 32, .inl (fun _ => 0))), (q7, .inl (k7, 32, .inr (.inr (.inr (.inl (fun _ => 0))))))]) hP hD [13] [0, 1, 2, 3, 4, 5, 6, 7, 8, 9, 10, 11, 12] rfl rfl (by decide) (by decide) hk1 hFc hP1 hD1
  have hK := hK.app hK1
  generalize H1 = H at hP hS ⊢
  have hP : va_P (dC, dI) cls [(h0, .inr (0, [.ref q1, .ref q2, .ref q3, .ref q4, .null, .null, .int 0, .int 0, .double 0, .double 0, .double 0, .int 0, .int 0])), (q1, .inl (k1, 13, .inr (.inr (.inr (.inl (fun _ => 0)))))), (q2, .inl (k2, 8, .inr (.inr (.inr (.inr (fun i => if i < 8 then some (r i) else none)))))), ((r 0), .inl (k1, 13, .inr (.inr (.inr (.inl (fun _ => 0)))))), ((r 1), .inl (k1, 13, .inr (.inr (.inr (.inl (fun _ => 0)))))), ((r 2), .inl (k1, 13, .inr (.inr (.inr (.inl (fun _ => 0)))))), ((r 3), .inl (k1, 13, .inr (.inr (.inr (.inl (fun _ => 0)))))), ((r 4), .inl (k1, 13, .inr (.inr (.inr (.inl (fun _ => 0)))))), ((r 5), .inl (k1, 13, .inr (.inr (.inr (.inl (fun _ => 0)))))), ((r 6), .inl (k1, 13, .inr (.inr (.inr (.inl (fun _ => 0)))))), ((r 7), .inl (k1, 13, .inr (.inr (.inr (.inl (fun _ => 0)))))), (q3, .inl (k3, 8, .inl (fun _ => 0))), (q4, .inl (k4, 4, .inr (.inr (.inr (.inl (fun _ => 0)))))), (qh, .inr (1, [.ref q6, .ref q7, .int 0, .int 0])), (q6, .inl (k6, 32, .inl (fun _ => 0))), (q7, .inl (k7, 32, .inr (.inr (.inr (.inl (fun _ => 0))))))] H := hP
  have hD : va_D A [(h0, .inr (0, [.ref q1, .ref q2, .ref q3, .ref q4, .null, .null, .int 0, .int 0, .double 0, .double 0, .double 0, .int 0, .int 0])), (q1, .inl (k1, 13, .inr (.inr (.inr (.inl (fun _ => 0)))))), (q2, .inl (k2, 8, .inr (.inr (.inr (.inr (fun i => if i < 8 then some (r i) else none)))))), ((r 0), .inl (k1, 13, .inr (.inr (.inr (.inl (fun _ => 0)))))), ((r 1), .inl (k1, 13, .inr (.inr (.inr (.inl (fun _ => 0)))))), ((r 2), .inl (k1, 13, .inr (.inr (.inr (.inl (fun _ => 0)))))), ((r 3), .inl (k1, 13, .inr (.inr (.inr (.inl (fun _ => 0)))))), ((r 4), .inl (k1, 13, .inr (.inr (.inr (.inl (fun _ => 0)))))), ((r 5), .inl (k1, 13, .inr (.inr (.inr (.inl (fun _ => 0)))))), ((r 6), .inl (k1, 13, .inr (.inr (.inr (.inl (fun _ => 0)))))), ((r 7), .inl (k1, 13, .inr (.inr (.inr (.inl (fun _ => 0)))))), (q3, .inl (k3, 8, .inl (fun _ => 0))), (q4, .inl (k4, 4, .inr (.inr (.inr (.inl (fun _ => 0)))))), (qh, .inr (1, [.ref q6, .ref q7, .int 0, .int 0])), (q6, .inl (k6, 32, .inl (fun _ => 0))), (q7, .inl (k7, 32, .inr (.inr (.inr (.inl (fun _ => 0))))))] := hD
  have hK : va_K (dC, dI) cls [(k1, .double), (k2, .array .double), (k3, .boolean), (k4, .double), (k6, .int), (k7, .double)] s := hK
  refine W.widen (k := 15) (n := 205) (Nat.le_of_ble_eq_true rfl) (Nat.le_of_ble_eq_true rfl) ?_
  refine va_putF (D := (dC, dI)) (ci := 0) (v := .ref qh) (ty := .object "MashEnzymes$Heating") (C := "MashEnzymes") (T := F_M) (N := 13) hx hb hts in_M t_M t_M_ok n_M hown hK hP hD hS 0 rfl rfl 4 (by decide) (hts _ tw_f_M_28) (fun _ h9 => h9) rfl hnm rfl (by decide +kernel) rfl rfl (Nat.le_of_ble_eq_true rfl) dM_init_47 (fun H locs hP hD hS => ?_)
  have hP : va_P (dC, dI) cls [(h0, .inr (0, [.ref q1, .ref q2, .ref q3, .ref q4, .ref qh, .null, .int 0, .int 0, .double 0, .double 0, .double 0, .int 0, .int 0])), (q1, .inl (k1, 13, .inr (.inr (.inr (.inl (fun _ => 0)))))), (q2, .inl (k2, 8, .inr (.inr (.inr (.inr (fun i => if i < 8 then some (r i) else none)))))), ((r 0), .inl (k1, 13, .inr (.inr (.inr (.inl (fun _ => 0)))))), ((r 1), .inl (k1, 13, .inr (.inr (.inr (.inl (fun _ => 0)))))), ((r 2), .inl (k1, 13, .inr (.inr (.inr (.inl (fun _ => 0)))))), ((r 3), .inl (k1, 13, .inr (.inr (.inr (.inl (fun _ => 0)))))), ((r 4), .inl (k1, 13, .inr (.inr (.inr (.inl (fun _ => 0)))))), ((r 5), .inl (k1, 13, .inr (.inr (.inr (.inl (fun _ => 0)))))), ((r 6), .inl (k1, 13, .inr (.inr (.inr (.inl (fun _ => 0)))))), ((r 7), .inl (k1, 13, .inr (.inr (.inr (.inl (fun _ => 0)))))), (q3, .inl (k3, 8, .inl (fun _ => 0))), (q4, .inl (k4, 4, .inr (.inr (.inr (.inl (fun _ => 0)))))), (qh, .inr (1, [.ref q6, .ref q7, .int 0, .int 0])), (q6, .inl (k6, 32, .inl (fun _ => 0))), (q7, .inl (k7, 32, .inr (.inr (.inr (.inl (fun _ => 0))))))] H := hP
  have hD : va_D A [(h0, .inr (0, [.ref q1, .ref q2, .ref q3, .ref q4, .ref qh, .null, .int 0, .int 0, .double 0, .double 0, .double 0, .int 0, .int 0])), (q1, .inl (k1, 13, .inr (.inr (.inr (.inl (fun _ => 0)))))), (q2, .inl (k2, 8, .inr (.inr (.inr (.inr (fun i => if i < 8 then some (r i) else none)))))), ((r 0), .inl (k1, 13, .inr (.inr (.inr (.inl (fun _ => 0)))))), ((r 1), .inl (k1, 13, .inr (.inr (.inr (.inl (fun _ => 0)))))), ((r 2), .inl (k1, 13, .inr (.inr (.inr (.inl (fun _ => 0)))))), ((r 3), .inl (k1, 13, .inr (.inr (.inr (.inl (fun _ => 0)))))), ((r 4), .inl (k1, 13, .inr (.inr (.inr (.inl (fun _ => 0)))))), ((r 5), .inl (k1, 13, .inr (.inr (.inr (.inl (fun _ => 0)))))), ((r 6), .inl (k1, 13, .inr (.inr (.inr (.inl (fun _ => 0)))))), ((r 7), .inl (k1, 13, .inr (.inr (.inr (.inl (fun _ => 0)))))), (q3, .inl (k3, 8, .inl (fun _ => 0))), (q4, .inl (k4, 4, .inr (.inr (.inr (.inl (fun _ => 0)))))), (qh, .inr (1, [.ref q6, .ref q7, .int 0, .int 0])), (q6, .inl (k6, 32, .inl (fun _ => 0))), (q7, .inl (k7, 32, .inr (.inr (.inr (.inl (fun _ => 0))))))] := hD
  refine lv_aload_n hx hb dM_init_50 rfl (lv_at hl 0 rfl) ?_
  refine va_new (ci := 2) (fs := [.null, .double 0]) (C := "MashEnzymes$Rows") (T := F_Q) (N := 2) hx hb hts in_Q t_Q t_Q_ok hown (hts _ tw_cl_M_32) (hts _ tw_n_Q) (hts _ tw_I_Q) hK hP hD hS hA rfl (fun j hj => by rcases (show j = 0 ∨ j = 1 by omega) with rfl | rfl <;> rfl) (Nat.le_of_ble_eq_true rfl) (Nat.le_of_ble_eq_true rfl) dM_init_51 (fun qr H hP hD hS => ?_)
  have hP : va_P (dC, dI) cls [(h0, .inr (0, [.ref q1, .ref q2, .ref q3, .ref q4, .ref qh, .null, .int 0, .int 0, .double 0, .double 0, .double 0, .int 0, .int 0])), (q1, .inl (k1, 13, .inr (.inr (.inr (.inl (fun _ => 0)))))), (q2, .inl (k2, 8, .inr (.inr (.inr (.inr (fun i => if i < 8 then some (r i) else none)))))), ((r 0), .inl (k1, 13, .inr (.inr (.inr (.inl (fun _ => 0)))))), ((r 1), .inl (k1, 13, .inr (.inr (.inr (.inl (fun _ => 0)))))), ((r 2), .inl (k1, 13, .inr (.inr (.inr (.inl (fun _ => 0)))))), ((r 3), .inl (k1, 13, .inr (.inr (.inr (.inl (fun _ => 0)))))), ((r 4), .inl (k1, 13, .inr (.inr (.inr (.inl (fun _ => 0)))))), ((r 5), .inl (k1, 13, .inr (.inr (.inr (.inl (fun _ => 0)))))), ((r 6), .inl (k1, 13, .inr (.inr (.inr (.inl (fun _ => 0)))))), ((r 7), .inl (k1, 13, .inr (.inr (.inr (.inl (fun _ => 0)))))), (q3, .inl (k3, 8, .inl (fun _ => 0))), (q4, .inl (k4, 4, .inr (.inr (.inr (.inl (fun _ => 0)))))), (qh, .inr (1, [.ref q6, .ref q7, .int 0, .int 0])), (q6, .inl (k6, 32, .inl (fun _ => 0))), (q7, .inl (k7, 32, .inr (.inr (.inr (.inl (fun _ => 0)))))), (qr, .inr (2, [.null, .double 0]))] H := hP
  have hD : va_D A [(h0, .inr (0, [.ref q1, .ref q2, .ref q3, .ref q4, .ref qh, .null, .int 0, .int 0, .double 0, .double 0, .double 0, .int 0, .int 0])), (q1, .inl (k1, 13, .inr (.inr (.inr (.inl (fun _ => 0)))))), (q2, .inl (k2, 8, .inr (.inr (.inr (.inr (fun i => if i < 8 then some (r i) else none)))))), ((r 0), .inl (k1, 13, .inr (.inr (.inr (.inl (fun _ => 0)))))), ((r 1), .inl (k1, 13, .inr (.inr (.inr (.inl (fun _ => 0)))))), ((r 2), .inl (k1, 13, .inr (.inr (.inr (.inl (fun _ => 0)))))), ((r 3), .inl (k1, 13, .inr (.inr (.inr (.inl (fun _ => 0)))))), ((r 4), .inl (k1, 13, .inr (.inr (.inr (.inl (fun _ => 0)))))), ((r 5), .inl (k1, 13, .inr (.inr (.inr (.inl (fun _ => 0)))))), ((r 6), .inl (k1, 13, .inr (.inr (.inr (.inl (fun _ => 0)))))), ((r 7), .inl (k1, 13, .inr (.inr (.inr (.inl (fun _ => 0)))))), (q3, .inl (k3, 8, .inl (fun _ => 0))), (q4, .inl (k4, 4, .inr (.inr (.inr (.inl (fun _ => 0)))))), (qh, .inr (1, [.ref q6, .ref q7, .int 0, .int 0])), (q6, .inl (k6, 32, .inl (fun _ => 0))), (q7, .inl (k7, 32, .inr (.inr (.inr (.inl (fun _ => 0)))))), (qr, .inr (2, [.null, .double 0]))] := hD
  refine W.widen (k := 16) (n := 207) (Nat.le_of_ble_eq_true rfl) (Nat.le_of_ble_eq_true rfl) ?_
  refine lv_dup hx hb dM_init_54 rfl ?_
  have hFc := va_free (wc := [(qr, .inr (2, [.null, .double 0]))]) hD hS hA [16] rfl
  refine va_callv (va_runI (As := []) (rest := [.ref qr, .ref h0]) ⟨hx, hb, hml, hown, hts⟩ (cQ_init l dC dI tt H.size qr) (cwI 0 hts (gT_I tw_c_yQ_init) rfl rfl rfl (hts _ tw_I_Q) (hts _ tw_m_M_34) (hts _ tw_i_yQ_init) rfl (by decide +kernel) ⟨by decide, by decide⟩) ⟨ct_blind, fun U hU hW => ct_pre (isC := [16]) (tyi := []) hP hD hK hS hA hT (by decide) rfl rfl U hU hW⟩ rfl rfl hl.1 rfl (lv_room (Nat.le_of_ble_eq_true rfl)) dM_init_55 ⟨Nat.le_of_ble_eq_true rfl, Nat.le_of_ble_eq_true rfl⟩) hS (fun q _ h => hFc q h) hFc (fun u t H1 locs ht hvm hw hB hz1 hk1 hS => ?_)
  obtain ⟨q9, k9⟩ := u
  obtain ⟨hP1, hK1, hD1⟩ := hB
  rw [ht] at hP1
  have hK1 := va_K.moved hvm.symm hK1
  obtain ⟨hP, hD⟩ := va_join (wr := [(h0, .inr (0, [.ref q1, .ref q2, .ref q3, .ref q4, .ref qh, .null, .int 0, .int 0, .double 0, .double 0, .double 0, .int 0, .int 0])), (q1, .inl (k1, 13, .inr (.inr (.inr (.inl (fun _ => 0)))))), (q2, .inl (k2, 8, .inr (.inr (.inr (.inr (fun i => if i < 8 then some (r i) else none)))))), ((r 0), .inl (k1, 13, .inr (.inr (.inr (.inl (fun _ => 0)))))), ((r 1), .inl (k1, 13, .inr (.inr (.inr (.inl (fun _ => 0)))))), ((r 2), .inl (k1, 13, .inr (.inr (.inr (.inl (fun _ => 0)))))), ((r 3), .inl (k1, 13, .inr (.inr (.inr (.inl (fun _ => 0)))))), ((r 4), .inl (k1, 13, .inr (.inr (.inr (.inl (fun _ => 0)))))), ((r 5), .inl (k1, 13, .inr (.inr (.inr (.inl (fun _ => 0)))))), ((r 6), .inl (k1, 13, .inr (.inr (.inr (.inl (fun _ => 0)))))), ((r 7), .inl (k1, 13, .inr (.inr (.inr (.inl (fun _ => 0)))))), (q3, .inl (k3, 8, .inl (fun _ => 0))), (q4, .inl (k4, 4, .inr (.inr (.inr (.inl (fun _ => 0)))))), (qh, .inr (1, [.ref q6, .ref q7, .int 0, .int 0])), (q6, .inl (k6, 32, .inl (fun _ => 0))), (q7, .inl (k7, 32, .inr (.inr (.inr (.inl (fun _ => 0))))))]) (w1 := [(qr, .inr (2, [.ref q9, .double 0])), (q9, .inl (k9, 9, .inr (.inr (.inr (.inl (rwA 0 9 (fun _ => 0)))))))]) hP hD [16] [0, 1, 2, 3, 4, 5, 6, 7, 8, 9, 10, 11, 12, 13, 14, 15] rfl rfl (by decide) (by decide) hk1 hFc hP1 hD1
  have hK := hK.app hK1
  generalize H1 = H at hP hS ⊢
  have hP : va_P (dC, dI) cls [(h0, .inr (0, [.ref q1, .ref q2, .ref q3, .ref q4, .ref qh, .null, .int 0, .int 0, .double 0, .double 0, .double 0, .int 0, .int 0])), (q1, .inl (k1, 13, .inr (.inr (.inr (.inl (fun _ => 0)))))), (q2, .inl (k2, 8, .inr (.inr (.inr (.inr (fun i => if i < 8 then some (r i) else none)))))), ((r 0), .inl (k1, 13, .inr (.inr (.inr (.inl (fun _ => 0)))))), ((r 1), .inl (k1, 13, .inr (.inr (.inr (.inl (fun _ => 0)))))), ((r 2), .inl (k1, 13, .inr (.inr (.inr (.inl (fun _ => 0)))))), ((r 3), .inl (k1, 13, .inr (.inr (.inr (.inl (fun _ => 0)))))), ((r 4), .inl (k1, 13, .inr (.inr (.inr (.inl (fun _ => 0)))))), ((r 5), .inl (k1, 13, .inr (.inr (.inr (.inl (fun _ => 0)))))), ((r 6), .inl (k1, 13, .inr (.inr (.inr (.inl (fun _ => 0)))))), ((r 7), .inl (k1, 13, .inr (.inr (.inr (.inl (fun _ => 0)))))), (q3, .inl (k3, 8, .inl (fun _ => 0))), (q4, .inl (k4, 4, .inr (.inr (.inr (.inl (fun _ => 0)))))), (qh, .inr (1, [.ref q6, .ref q7, .int 0, .int 0])), (q6, .inl (k6, 32, .inl (fun _ => 0))), (q7, .inl (k7, 32, .inr (.inr (.inr (.inl (fun _ => 0)))))), (qr, .inr (2, [.ref q9, .double 0])), (q9, .inl (k9, 9, .inr (.inr (.inr (.inl (rwA 0 9 (fun _ => 0)))))))] H := hP
  have hD : va_D A [(h0, .inr (0, [.ref q1, .ref q2, .ref q3, .ref q4, .ref qh, .null, .int 0, .int 0, .double 0, .double 0, .double 0, .int 0, .int 0])), (q1, .inl (k1, 13, .inr (.inr (.inr (.inl (fun _ => 0)))))), (q2, .inl (k2, 8, .inr (.inr (.inr (.inr (fun i => if i < 8 then some (r i) else none)))))), ((r 0), .inl (k1, 13, .inr (.inr (.inr (.inl (fun _ => 0)))))), ((r 1), .inl (k1, 13, .inr (.inr (.inr (.inl (fun _ => 0)))))), ((r 2), .inl (k1, 13, .inr (.inr (.inr (.inl (fun _ => 0)))))), ((r 3), .inl (k1, 13, .inr (.inr (.inr (.inl (fun _ => 0)))))), ((r 4), .inl (k1, 13, .inr (.inr (.inr (.inl (fun _ => 0)))))), ((r 5), .inl (k1, 13, .inr (.inr (.inr (.inl (fun _ => 0)))))), ((r 6), .inl (k1, 13, .inr (.inr (.inr (.inl (fun _ => 0)))))), ((r 7), .inl (k1, 13, .inr (.inr (.inr (.inl (fun _ => 0)))))), (q3, .inl (k3, 8, .inl (fun _ => 0))), (q4, .inl (k4, 4, .inr (.inr (.inr (.inl (fun _ => 0)))))), (qh, .inr (1, [.ref q6, .ref q7, .int 0, .int 0])), (q6, .inl (k6, 32, .inl (fun _ => 0))), (q7, .inl (k7, 32, .inr (.inr (.inr (.inl (fun _ => 0)))))), (qr, .inr (2, [.ref q9, .double 0])), (q9, .inl (k9, 9, .inr (.inr (.inr (.inl (rwA 0 9 (fun _ => 0)))))))] := hD
  have hK : va_K (dC, dI) cls [(k1, .double), (k2, .array .double), (k3, .boolean), (k4, .double), (k6, .int), (k7, .double), (k9, .double)] s := hK
  refine W.widen (k := 17) (n := 216) (Nat.le_of_ble_eq_true rfl) (Nat.le_of_ble_eq_true rfl) ?_
  refine va_putF (D := (dC, dI)) (ci := 0) (v := .ref qr) (ty := .object "MashEnzymes$Rows") (C := "MashEnzymes") (T := F_M) (N := 13) hx hb hts in_M t_M t_M_ok n_M hown hK hP hD hS 0 rfl rfl 5 (by decide) (hts _ tw_f_M_35) (fun _ h9 => h9) rfl hnm rfl (by decide +kernel) rfl rfl (Nat.le_of_ble_eq_true rfl) dM_init_58 (fun H locs hP hD hS => ?_)
  have hP : va_P (dC, dI) cls [(h0, .inr (0, [.ref q1, .ref q2, .ref q3, .ref q4, .ref qh, .ref qr, .int 0, .int 0, .double 0, .double 0, .double 0, .int 0, .int 0])), (q1, .inl (k1, 13, .inr (.inr (.inr (.inl (fun _ => 0)))))), (q2, .inl (k2, 8, .inr (.inr (.inr (.inr (fun i => if i < 8 then some (r i) else none)))))), ((r 0), .inl (k1, 13, .inr (.inr (.inr (.inl (fun _ => 0)))))), ((r 1), .inl (k1, 13, .inr (.inr (.inr (.inl (fun _ => 0)))))), ((r 2), .inl (k1, 13, .inr (.inr (.inr (.inl (fun _ => 0)))))), ((r 3), .inl (k1, 13, .inr (.inr (.inr (.inl (fun _ => 0)))))), ((r 4), .inl (k1, 13, .inr (.inr (.inr (.inl (fun _ => 0)))))), ((r 5), .inl (k1, 13, .inr (.inr (.inr (.inl (fun _ => 0)))))), ((r 6), .inl (k1, 13, .inr (.inr (.inr (.inl (fun _ => 0)))))), ((r 7), .inl (k1, 13, .inr (.inr (.inr (.inl (fun _ => 0)))))), (q3, .inl (k3, 8, .inl (fun _ => 0))), (q4, .inl (k4, 4, .inr (.inr (.inr (.inl (fun _ => 0)))))), (qh, .inr (1, [.ref q6, .ref q7, .int 0, .int 0])), (q6, .inl (k6, 32, .inl (fun _ => 0))), (q7, .inl (k7, 32, .inr (.inr (.inr (.inl (fun _ => 0)))))), (qr, .inr (2, [.ref q9, .double 0])), (q9, .inl (k9, 9, .inr (.inr (.inr (.inl (rwA 0 9 (fun _ => 0)))))))] H := hP
  have hD : va_D A [(h0, .inr (0, [.ref q1, .ref q2, .ref q3, .ref q4, .ref qh, .ref qr, .int 0, .int 0, .double 0, .double 0, .double 0, .int 0, .int 0])), (q1, .inl (k1, 13, .inr (.inr (.inr (.inl (fun _ => 0)))))), (q2, .inl (k2, 8, .inr (.inr (.inr (.inr (fun i => if i < 8 then some (r i) else none)))))), ((r 0), .inl (k1, 13, .inr (.inr (.inr (.inl (fun _ => 0)))))), ((r 1), .inl (k1, 13, .inr (.inr (.inr (.inl (fun _ => 0)))))), ((r 2), .inl (k1, 13, .inr (.inr (.inr (.inl (fun _ => 0)))))), ((r 3), .inl (k1, 13, .inr (.inr (.inr (.inl (fun _ => 0)))))), ((r 4), .inl (k1, 13, .inr (.inr (.inr (.inl (fun _ => 0)))))), ((r 5), .inl (k1, 13, .inr (.inr (.inr (.inl (fun _ => 0)))))), ((r 6), .inl (k1, 13, .inr (.inr (.inr (.inl (fun _ => 0)))))), ((r 7), .inl (k1, 13, .inr (.inr (.inr (.inl (fun _ => 0)))))), (q3, .inl (k3, 8, .inl (fun _ => 0))), (q4, .inl (k4, 4, .inr (.inr (.inr (.inl (fun _ => 0)))))), (qh, .inr (1, [.ref q6, .ref q7, .int 0, .int 0])), (q6, .inl (k6, 32, .inl (fun _ => 0))), (q7, .inl (k7, 32, .inr (.inr (.inr (.inl (fun _ => 0)))))), (qr, .inr (2, [.ref q9, .double 0])), (q9, .inl (k9, 9, .inr (.inr (.inr (.inl (rwA 0 9 (fun _ => 0)))))))] := hD
  have hP9 : va_P (dC, dI) cls (wM (adM [h0, q1, q2, q3, q4, qh, q6, q7, qr, q9] r) (fun n => [k1, k2, k3, k4, k6, k7, k9, k1].getD n k1) (fun _ => 0) (fun _ => (fun _ => 0)) (fun _ => 0) (fun _ => 0) (fun _ => 0) (fun _ => 0) 0 0 (rwA 0 9 (fun _ => 0)) 0 0 0 0 0 0 0 0) H := hP.sub [0, 1, 2, 11, 12, 13, 14, 15, 16, 17, 3, 4, 5, 6, 7, 8, 9, 10] rfl
  have hD9 : va_D A (wM (adM [h0, q1, q2, q3, q4, qh, q6, q7, qr, q9] r) (fun n => [k1, k2, k3, k4, k6, k7, k9, k1].getD n k1) (fun _ => 0) (fun _ => (fun _ => 0)) (fun _ => 0) (fun _ => 0) (fun _ => 0) (fun _ => 0) 0 0 (rwA 0 9 (fun _ => 0)) 0 0 0 0 0 0 0 0) := hD.sub [0, 1, 2, 11, 12, 13, 14, 15, 16, 17, 3, 4, 5, 6, 7, 8, 9, 10] (by decide) rfl
  have hK9 : va_K (dC, dI) cls (tM (fun n => [k1, k2, k3, k4, k6, k7, k9, k1].getD n k1)) s := hK.sub [0, 1, 2, 3, 4, 5, 6, 0] rfl
  exact W.vret hx hb hr (fun t ht hW => ⟨⟨((adM [h0, q1, q2, q3, q4, qh, q6, q7, qr, q9] r), (fun n => [k1, k2, k3, k4, k6, k7, k9, k1].getD n k1)), rfl, rfl, by rw [ht]; exact hP9, va_K.moved hW.alike hK9, hD9⟩, hS.F ht⟩) hS.2.2 dM_init_61 hlocks
end
section
/-! what keeps every reckoning a number: amounts without sign, and bounds on them -/
/-- amounts without sign, with bounds -/
def GB (f : Nat → Nat) (a : Nat → UInt64) : Prop := ∀ i, i < 13 → ft_P (a i) ∧ ft_z (a i) ≤ f i * FP.Core.one64
theorem GB.up {f : Nat → Nat} {a : Nat → UInt64} (h : GB f a) {k m : Nat} {x : UInt64} (hx : ft_P x) (hm : ft_z x ≤ m * FP.Core.one64) : GB (fun i => if i = k then m else f i) (vf_upd a k x) := fun i hi => by
  unfold vf_upd
  by_cases e : i = k
  · simp only [e, if_true]; exact ⟨hx, hm⟩
  · simp only [e, if_false]; exact h i hi
theorem GB.keep {f : Nat → Nat} {a : Nat → UInt64} (h : GB f a) {k : Nat} {x : UInt64} (hx : ft_P x) (hm : ft_z x ≤ f k * FP.Core.one64) : GB f (vf_upd a k x) := fun i hi => by
  unfold vf_upd
  by_cases e : i = k
  · simp only [e, if_true]; exact ⟨hx, hm⟩
  · simp only [e, if_false]; exact h i hi
theorem GB.mono {f g : Nat → Nat} {a : Nat → UInt64} (h : GB f a) (hfg : ∀ i, i < 13 → f i ≤ g i) : GB g a := fun i hi => ⟨(h i hi).1, Nat.le_trans (h i hi).2 (Nat.mul_le_mul_right _ (hfg i hi))⟩
def ft_U (x : UInt64) : Prop := ft_P x ∧ ft_z x ≤ FP.Core.one64
theorem ft_cP {x : UInt64} (h : ft_isP x = true) : ft_P x := ft_isP_P h
theorem ft_k75 : ft_U 0x3FE8000000000000 := ⟨ft_cP (by decide +kernel), by decide +kernel⟩
theorem ft_k25 : ft_U 0x3FD0000000000000 := ⟨ft_cP (by decide +kernel), by decide +kernel⟩
theorem ft_k0625 : ft_U 0x3FB0000000000000 := ⟨ft_cP (by decide +kernel), by decide +kernel⟩
theorem ft_k125 : ft_U 0x3FC0000000000000 := ⟨ft_cP (by decide +kernel), by decide +kernel⟩
theorem ft_k8 : ft_P 0x4020000000000000 ∧ ft_z 0x4020000000000000 = 8 * FP.Core.one64 := ⟨ft_cP (by decide +kernel), by decide +kernel⟩
theorem ft_k2 : ft_P 0x4000000000000000 ∧ ft_z 0x4000000000000000 = 2 * FP.Core.one64 := ⟨ft_cP (by decide +kernel), by decide +kernel⟩
theorem ft_k10625 : ft_P 0x3FF1000000000000 ∧ ft_z 0x3FF1000000000000 ≤ 2 * FP.Core.one64 := ⟨ft_cP (by decide +kernel), by decide +kernel⟩
theorem ft_k1125 : ft_P 0x3FF2000000000000 ∧ ft_z 0x3FF2000000000000 ≤ 2 * FP.Core.one64 := ⟨ft_cP (by decide +kernel), by decide +kernel⟩
theorem ft_k16th : 16 * ft_z 0x3FB0000000000000 = FP.Core.one64 := by decide +kernel
theorem ft_k8th : 8 * ft_z 0x3FC0000000000000 = FP.Core.one64 := by decide +kernel
/-- twice a number -/
theorem ft_mul2 {x k : UInt64} {m : Nat} (hx : ft_P x) (hk : ft_P k) (hkz : ft_z k ≤ 2 * FP.Core.one64) (hm : ft_z x ≤ m * FP.Core.one64) (hR : ft_R (2 * m * FP.Core.one64)) : ft_P (FP.dmul x k) ∧ ft_z (FP.dmul x k) ≤ 2 * m * FP.Core.one64 :=
  ft_mul hx hk hR (by
    calc ft_z x * ft_z k ≤ (m * FP.Core.one64) * (2 * FP.Core.one64) := Nat.mul_le_mul hm hkz
      _ = m * 2 * FP.Core.one64 * FP.Core.one64 := ft_ac1 _ _ _ _
      _ = 2 * m * FP.Core.one64 * FP.Core.one64 := by rw [Nat.mul_comm m 2])
theorem ft_Rone : ft_R FP.Core.one64 := by have := ft_c1P.R; rwa [ft_c1z] at this
/-- an enzyme's action -/
theorem act_ok {x W : UInt64} {m : Nat} (hx : ft_P x) (hW : ft_P W) (hR : ft_R m) (h : ft_z x + ft_z W ≤ m) : (FP.dcmp x 0 = some .gt → vf_n64 (FP.dadd x W) ∧ vf_n64 (FP.ddiv x (FP.dadd x W)) ∧ vf_n64 (FP.dmul (FP.ddiv x (FP.dadd x W)) 0x3FB0000000000000)) ∧ ft_U (actX x W) := by
  unfold actX
  by_cases hg : FP.dcmp x 0 = some .gt
  · rw [if_pos hg]
    rw [ft_gt hx ft_0P, ft_0z] at hg
    obtain ⟨s1, -, s3, -⟩ := ft_add hx hW hR h
    obtain ⟨d1, d2⟩ := ft_div hx s1 (by omega) (n := FP.Core.one64) ft_Rone (by rw [Nat.mul_comm]; exact Nat.mul_le_mul_left _ s3)
    obtain ⟨e1, e2⟩ := ft_mul_le d1 ft_k0625.1 ft_k0625.2
    exact ⟨fun _ => ⟨s1.n, d1.n, e1.n⟩, e1, Nat.le_trans e2 d2⟩
  · rw [if_neg hg]
    exact ⟨fun h => absurd h hg, ft_0P, by rw [ft_0z]; exact Nat.zero_le _⟩
theorem actE_ok {f : Nat → Nat} {a R : Nat → UInt64} {A : UInt64} (hG : GB f a) (hR : ∀ r, r < 9 → ft_U (R r)) (hA : ft_P A) (hr : ∀ k, k < 4 → ft_R ((f (9 + k) + f 0) * FP.Core.one64)) : okA a R A ∧ ∀ k, k < 4 → ft_U (actE a R A k) := by
  obtain ⟨f1, f2⟩ := fitA_P hA
  have key : ∀ k, k < 4 → _ := fun k hk => by
    obtain ⟨e1, e2⟩ := hG (9 + k) (by omega)
    obtain ⟨w1, w2⟩ := hG 0 (by decide)
    obtain ⟨m1, m2⟩ := ft_mul_le e1 (hR k (by omega)).1 (hR k (by omega)).2
    obtain ⟨n1, n2⟩ := ft_mul_le m1 f1 f2
    have h := act_ok n1 w1 (hr k hk) (by rw [Nat.add_mul]; omega)
    exact And.intro (And.intro m1.n (And.intro n1.n h.1)) h.2
  exact ⟨fun k hk => (key k hk).1, fun k hk => (key k hk).2⟩
theorem step3 {f : Nat → Nat} {a R : Nat → UInt64} {m : Nat} (hG : GB f a) (hR : ft_U (R 8)) (hm : f 2 + f 1 ≤ m) (hr : ft_R (m * FP.Core.one64)) : ok3 a R ∧ GB (fun i => if i = 2 then m else f i) (s3 a R) := by
  obtain ⟨u1, u2⟩ := hG 1 (by decide)
  obtain ⟨g1, g2⟩ := hG 2 (by decide)
  obtain ⟨d1, d2⟩ := ft_mul_le u1 hR.1 hR.2
  obtain ⟨x1, x2⟩ := ft_sub_le u1 d1 d2
  obtain ⟨y1, y2, -⟩ := ft_add g1 d1 hr (by have := Nat.mul_le_mul_right FP.Core.one64 hm; rw [Nat.add_mul] at this; omega)
  exact ⟨⟨d1.n, x1.n, y1.n⟩, (hG.keep x1 (Nat.le_trans x2 u2)).up y1 y2⟩
theorem step4 {f : Nat → Nat} {a C : Nat → UInt64} {m : Nat} (hG : GB f a) (hC : ft_U (C 0)) (h6 : f 6 + f 2 ≤ m) (h5 : f 5 + f 2 ≤ m) (hr : ft_R (m * FP.Core.one64)) : ok4 a C ∧ GB (fun i => if i = 5 then m else if i = 6 then m else f i) (s4 a C) := by
  obtain ⟨g1, g2⟩ := hG 2 (by decide)
  obtain ⟨p1, p2⟩ := hG 6 (by decide)
  obtain ⟨q1, q2⟩ := hG 5 (by decide)
  obtain ⟨x1, x2⟩ := ft_mul_le g1 hC.1 hC.2
  obtain ⟨y1, y2⟩ := ft_sub_le g1 x1 x2
  obtain ⟨a1, a2⟩ := ft_mul_le x1 ft_k75.1 ft_k75.2
  obtain ⟨b1, b2⟩ := ft_mul_le x1 ft_k25.1 ft_k25.2
  obtain ⟨c1, c2, -⟩ := ft_add p1 a1 hr (by have := Nat.mul_le_mul_right FP.Core.one64 h6; rw [Nat.add_mul] at this; omega)
  obtain ⟨d1, d2, -⟩ := ft_add q1 b1 hr (by have := Nat.mul_le_mul_right FP.Core.one64 h5; rw [Nat.add_mul] at this; omega)
  exact ⟨⟨x1.n, y1.n, a1.n, c1.n, b1.n, d1.n⟩, ((hG.keep y1 (Nat.le_trans y2 g2)).up c1 c2).up d1 d2⟩
theorem les_ok {x w : UInt64} (hx : ft_P x) (hw : ft_P w) : ft_P (lesD x w) ∧ ft_z (lesD x w) ≤ ft_z x ∧ ft_z (lesD x w) ≤ ft_z w := by
  unfold lesD
  split
  · rename_i h
    have := (ft_lt hw hx).mp h
    exact ⟨hw, by omega, Nat.le_refl _⟩
  · rename_i h
    have : ¬ ft_z w < ft_z x := fun h2 => h ((ft_lt hw hx).mpr h2)
    exact ⟨hx, Nat.le_refl _, by omega⟩
theorem ft_oneS {m e : Nat} (hm : m ≤ 2 ^ e) : m * FP.Core.one64 ≤ 2 ^ (e + 1074) := by
  rw [ft_one_eq, ft_qm, Nat.pow_add]
  exact Nat.mul_le_mul_right _ hm
/-- a part of the water goes -/
theorem wat_ok {y w k : UInt64} {n : Nat} (hy : ft_P y) (hw : ft_P w) (hk : ft_P k) (hkz : n * ft_z k = FP.Core.one64) (h : ft_z y ≤ n * ft_z w) : ft_P (FP.dmul y k) ∧ ft_P (FP.dsub w (FP.dmul y k)) ∧ ft_z (FP.dsub w (FP.dmul y k)) ≤ ft_z w := by
  obtain ⟨m1, m2⟩ := ft_mul hy hk hw.R (by
    calc ft_z y * ft_z k ≤ (n * ft_z w) * ft_z k := Nat.mul_le_mul_right _ h
      _ = ft_z w * (n * ft_z k) := by rw [Nat.mul_comm n, Nat.mul_assoc]
      _ = ft_z w * FP.Core.one64 := by rw [hkz])
  obtain ⟨s1, s2⟩ := ft_sub_le hw m1 m2
  exact ⟨m1, s1, s2⟩
theorem step5 {f : Nat → Nat} {a C : Nat → UInt64} {m e : Nat} (hG : GB f a) (hC : ft_U (C 1)) (h0 : f 0 ≤ 2 ^ e) (he : e ≤ 900) (hr6 : ft_R (2 * f 6 * FP.Core.one64)) (h4 : f 4 + 2 * f 6 ≤ m) (hr : ft_R (m * FP.Core.one64)) : ok5 a C ∧ GB (fun i => if i = 4 then m else f i) (s5 a C) := by
  obtain ⟨w1, w2⟩ := hG 0 (by decide)
  obtain ⟨p1, p2⟩ := hG 6 (by decide)
  obtain ⟨q1, q2⟩ := hG 4 (by decide)
  obtain ⟨x1, x2⟩ := ft_mul_le p1 hC.1 hC.2
  have hw8 : ft_R (ft_z (a 0) * 2 ^ 3) := ft_R_shift (e := e + 1074) w1.R (Nat.le_trans w2 (ft_oneS h0)) (by omega)
  obtain ⟨v1, v2⟩ := ft_mul w1 ft_k8.1 hw8 (by rw [ft_k8.2, ← Nat.mul_assoc]; exact Nat.le_refl _)
  obtain ⟨y1, y2, y3⟩ := les_ok x1 v1
  have hy : lesD (FP.dmul (a 6) (C 1)) (FP.dmul (a 0) 0x4020000000000000) = y5 a C := rfl
  rw [hy] at y1 y2 y3
  obtain ⟨s1, s2⟩ := ft_sub_le p1 y1 (Nat.le_trans y2 x2)
  obtain ⟨t1, t2⟩ := ft_mul2 y1 ft_k10625.1 ft_k10625.2 (Nat.le_trans y2 (Nat.le_trans x2 p2)) hr6
  obtain ⟨c1, c2, -⟩ := ft_add q1 t1 hr (by have := Nat.mul_le_mul_right FP.Core.one64 h4; rw [Nat.add_mul] at this; omega)
  obtain ⟨k1, k2, k3⟩ := wat_ok (n := 16) y1 w1 ft_k0625.1 ft_k16th (by omega)
  exact ⟨⟨x1.n, v1.n, s1.n, t1.n, c1.n, k1.n, k2.n⟩, fun i hi => by
    have := ((hG.keep (k := 6) s1 (Nat.le_trans s2 p2)).up (k := 4) c1 c2).keep (k := 0) k2 (Nat.le_trans k3 w2)
    exact this i hi⟩
theorem step6 {f : Nat → Nat} {a C : Nat → UInt64} {m e : Nat} (hG : GB f a) (hC : ft_U (C 2)) (h0 : f 0 ≤ 2 ^ e) (he : e ≤ 900) (hr6 : ft_R (2 * f 6 * FP.Core.one64)) (h4 : f 3 + 2 * f 6 ≤ m) (hr : ft_R (m * FP.Core.one64)) : ok6 a C ∧ GB (fun i => if i = 3 then m else f i) (s6 a C) := by
  obtain ⟨w1, w2⟩ := hG 0 (by decide)
  obtain ⟨p1, p2⟩ := hG 6 (by decide)
  obtain ⟨q1, q2⟩ := hG 3 (by decide)
  obtain ⟨x1, x2⟩ := ft_mul_le p1 hC.1 hC.2
  have hw8 : ft_R (ft_z (a 0) * 2 ^ 1) := ft_R_shift (e := e + 1074) w1.R (Nat.le_trans w2 (ft_oneS h0)) (by omega)
  obtain ⟨v1, v2⟩ := ft_mul w1 ft_k2.1 hw8 (by rw [ft_k2.2, ← Nat.mul_assoc]; exact Nat.le_refl _)
  obtain ⟨y1, y2, y3⟩ := les_ok x1 v1
  have hy : lesD (FP.dmul (a 6) (C 2)) (FP.dmul (a 0) 0x4000000000000000) = z6 a C := rfl
  rw [hy] at y1 y2 y3
  obtain ⟨s1, s2⟩ := ft_sub_le p1 y1 (Nat.le_trans y2 x2)
  obtain ⟨t1, t2⟩ := ft_mul2 y1 ft_k1125.1 ft_k1125.2 (Nat.le_trans y2 (Nat.le_trans x2 p2)) hr6
  obtain ⟨c1, c2, -⟩ := ft_add q1 t1 hr (by have := Nat.mul_le_mul_right FP.Core.one64 h4; rw [Nat.add_mul] at this; omega)
  obtain ⟨k1, k2, k3⟩ := wat_ok (n := 8) y1 w1 ft_k125.1 ft_k8th (by omega)
  exact ⟨⟨x1.n, v1.n, s1.n, t1.n, c1.n, k1.n, k2.n⟩, fun i hi => by
    have := ((hG.keep (k := 6) s1 (Nat.le_trans s2 p2)).up (k := 3) c1 c2).keep (k := 0) k2 (Nat.le_trans k3 w2)
    exact this i hi⟩
theorem step7 {f : Nat → Nat} {a C : Nat → UInt64} {m : Nat} (hG : GB f a) (hC : ft_U (C 3)) (hm : f 7 + f 8 ≤ m) (hr : ft_R (m * FP.Core.one64)) : ok7 a C ∧ GB (fun i => if i = 7 then m else f i) (s7 a C) := by
  obtain ⟨u1, u2⟩ := hG 8 (by decide)
  obtain ⟨g1, g2⟩ := hG 7 (by decide)
  obtain ⟨d1, d2⟩ := ft_mul_le u1 hC.1 hC.2
  obtain ⟨x1, x2⟩ := ft_sub_le u1 d1 d2
  obtain ⟨y1, y2, -⟩ := ft_add g1 d1 hr (by have := Nat.mul_le_mul_right FP.Core.one64 hm; rw [Nat.add_mul] at this; omega)
  exact ⟨⟨d1.n, x1.n, y1.n⟩, (hG.keep x1 (Nat.le_trans x2 u2)).up y1 y2⟩
theorem step8 {f : Nat → Nat} {a R : Nat → UInt64} (hG : GB f a) (hR : ∀ r, r < 9 → ft_U (R r)) : ok8 a R ∧ GB f (s8 a R 4) := by
  have key : ∀ k, k < 4 → ft_P (FP.dmul (a (9 + k)) (R (4 + k))) ∧ ft_P (FP.dsub (a (9 + k)) (FP.dmul (a (9 + k)) (R (4 + k)))) ∧ ft_z (FP.dsub (a (9 + k)) (FP.dmul (a (9 + k)) (R (4 + k)))) ≤ f (9 + k) * FP.Core.one64 := fun k hk => by
    obtain ⟨e1, e2⟩ := hG (9 + k) (by omega)
    obtain ⟨m1, m2⟩ := ft_mul_le e1 (hR (4 + k) (by omega)).1 (hR (4 + k) (by omega)).2
    obtain ⟨s1, s2⟩ := ft_sub_le e1 m1 m2
    exact ⟨m1, s1, Nat.le_trans s2 e2⟩
  refine ⟨fun k hk => ⟨(key k hk).1.n, (key k hk).2.1.n⟩, fun i hi => ?_⟩
  unfold s8
  by_cases h : 9 ≤ i ∧ i < 9 + 4
  · rw [if_pos h]
    have := (key (i - 9) (by omega)).2
    rwa [show 9 + (i - 9) = i by omega] at this
  · rw [if_neg h]
    exact hG i hi
/-- the bounds: b for water, raw starch, protein, enzymes; n seconds -/
def bd (b n : Nat) (i : Nat) : Nat := if i = 2 then (n + 1) * b else if i = 5 ∨ i = 6 then (n + 1) * b * 2 ^ 20 else if i = 3 ∨ i = 4 ∨ i = 7 then (n + 1) * b * 2 ^ 42 else b
theorem bd_R {b n e : Nat} (hb : b ≤ 2 ^ 32) (hn : n ≤ 2 ^ 20) (he : e ≤ 100) : ft_R ((n + 1) * b * 2 ^ e * FP.Core.one64) := by
  refine ft_R_one ?_ (by omega)
  calc (n + 1) * b ≤ (2 ^ 20 + 1) * 2 ^ 32 := Nat.mul_le_mul (by omega) hb
    _ < 2 ^ 53 := by decide
/-- a second keeps the bounds -/
theorem sec_ok {b n : Nat} {a R C : Nat → UInt64} {A : UInt64} (hG : GB (bd b n) a) (hb : b ≤ 2 ^ 32) (hn : n + 3 ≤ 2 ^ 20) (hR : ∀ r, r < 9 → ft_U (R r)) (hA : ft_P A) (hC : ∀ k, k < 4 → C k = actE a R A k) : okQ a R C A ∧ GB (bd b (n + 1)) (sq8 a R C) := by
  have hR0 : ∀ m e, m ≤ n + 2 → e ≤ 100 → ft_R ((m + 1) * b * 2 ^ e * FP.Core.one64) := fun m e hm he => bd_R hb (by omega) he
  have e0 : ∀ x : Nat, x * 2 ^ 0 = x := fun x => by rw [Nat.pow_zero, Nat.mul_one]
  have hb2 : (n + 2) * b = n * b + 2 * b := by rw [Nat.add_mul]
  have hb1 : (n + 1) * b = n * b + b := by rw [Nat.add_mul, Nat.one_mul]
  obtain ⟨oA, hU⟩ := actE_ok hG hR hA (fun k hk => by
    have h1 : bd b n (9 + k) = b := by unfold bd; rw [if_neg (by omega), if_neg (by omega), if_neg (by omega)]
    have h2 : bd b n 0 = b := rfl
    rw [h1, h2]
    have := hR0 1 0 (by omega) (by decide)
    rw [e0] at this
    rwa [show b + b = (1 + 1) * b by omega])
  have hU : ∀ k, k < 4 → ft_U (C k) := fun k hk => by rw [hC k hk]; exact hU k hk
  have b0 : bd b n 0 = b := rfl
  have b1 : bd b n 1 = b := rfl
  have b2 : bd b n 2 = (n + 1) * b := rfl
  have b3 : bd b n 3 = (n + 1) * b * 2 ^ 42 := rfl
  have b4 : bd b n 4 = (n + 1) * b * 2 ^ 42 := rfl
  have b5 : bd b n 5 = (n + 1) * b * 2 ^ 20 := rfl
  have b6 : bd b n 6 = (n + 1) * b * 2 ^ 20 := rfl
  have b7 : bd b n 7 = (n + 1) * b * 2 ^ 42 := rfl
  have b8 : bd b n 8 = b := rfl
  have hnb : n * b + 2 * b ≤ b * 2 ^ 20 := by
    rw [← hb2, Nat.mul_comm]
    exact Nat.mul_le_mul_left _ (by omega)
  obtain ⟨o3, g3⟩ := step3 (m := (n + 2) * b) hG (hR 8 (by decide)) (by rw [b1, b2]; omega) (by have := hR0 (n + 1) 0 (by omega) (by decide); rwa [e0] at this)
  obtain ⟨o4, g4⟩ := step4 (m := (n + 2) * b * 2 ^ 20) g3 (hU 0 (by decide)) (by simp only [if_true, show (6 : Nat) = 2 ↔ False by decide, if_false]; rw [b6]; omega) (by simp only [if_true, show (5 : Nat) = 2 ↔ False by decide, if_false]; rw [b5]; omega) (hR0 (n + 1) 20 (by omega) (by decide))
  have hbig : 2 * ((n + 2) * b * 2 ^ 20) ≤ b * 2 ^ 42 := by omega
  have hr6 : ft_R (2 * ((n + 2) * b * 2 ^ 20) * FP.Core.one64) := by
    have := hR0 (n + 1) 21 (by omega) (by decide)
    have h9 : (n + 1 + 1) * b * 2 ^ 21 = 2 * ((n + 2) * b * 2 ^ 20) := by
      show (n + 2) * b * 2 ^ 21 = _
      generalize (n + 2) * b = w
      omega
    rwa [h9] at this
  obtain ⟨o5, g5⟩ := step5 (m := (n + 2) * b * 2 ^ 42) (e := 32) g4 (hU 1 (by decide)) (by simpa [b0] using hb) (by decide) (by simpa using hr6) (by simp; rw [b4]; omega) (hR0 (n + 1) 42 (by omega) (by decide))
  obtain ⟨o6, g6⟩ := step6 (m := (n + 2) * b * 2 ^ 42) (e := 32) g5 (hU 2 (by decide)) (by simpa [b0] using hb) (by decide) (by simpa using hr6) (by simp; rw [b3]; omega) (hR0 (n + 1) 42 (by omega) (by decide))
  obtain ⟨o7, g7⟩ := step7 (m := (n + 2) * b * 2 ^ 42) g6 (hU 3 (by decide)) (by simp; rw [b7, b8]; omega) (hR0 (n + 1) 42 (by omega) (by decide))
  obtain ⟨o8, g8⟩ := step8 g7 hR
  refine ⟨⟨oA, o3, o4, o5, o6, o7, o8⟩, g8.mono fun i hi => ?_⟩
  unfold bd
  rcases (show i = 0 ∨ i = 1 ∨ i = 2 ∨ i = 3 ∨ i = 4 ∨ i = 5 ∨ i = 6 ∨ i = 7 ∨ i = 8 ∨ i = 9 ∨ i = 10 ∨ i = 11 ∨ i = 12 by omega) with rfl | rfl | rfl | rfl | rfl | rfl | rfl | rfl | rfl | rfl | rfl | rfl | rfl <;> simp
end
section
/-! seconds of the class and of the reference go alike -/
theorem fstN_spec (hs : Nat → Int32) (nw : Int32) (c0 : Nat) : ∀ n k, n + k = c0 → k ≤ fstN hs nw c0 n k ∧ fstN hs nw c0 n k ≤ c0 ∧ (∀ i, k ≤ i → i < fstN hs nw c0 n k → hs i ≤ nw) ∧ (fstN hs nw c0 n k < c0 → ¬ hs (fstN hs nw c0 n k) ≤ nw)
  | 0, k, h => by
    unfold fstN
    exact ⟨Nat.le_refl _, by omega, fun i h1 h2 => by omega, fun h1 => by omega⟩
  | n + 1, k, h => by
    unfold fstN
    split
    · rename_i h1
      obtain ⟨a1, a2, a3, a4⟩ := fstN_spec hs nw c0 n (k + 1) (by omega)
      refine ⟨by omega, a2, fun i h2 h3 => ?_, a4⟩
      by_cases e : i = k
      · rw [e]; exact h1.2
      · exact a3 i (by omega) h3
    · rename_i h1
      exact ⟨Nat.le_refl _, by omega, fun i h2 h3 => by omega, fun h2 h3 => h1 ⟨h2, h3⟩⟩
theorem fst_spec (hs : Nat → Int32) (nw : Int32) {c0 k : Nat} (hk : k ≤ c0) : k ≤ fst hs nw c0 k ∧ fst hs nw c0 k ≤ c0 ∧ (∀ i, k ≤ i → i < fst hs nw c0 k → hs i ≤ nw) ∧ (fst hs nw c0 k < c0 → ¬ hs (fst hs nw c0 k) ≤ nw) := fstN_spec hs nw c0 (c0 - k) k (by omega)
theorem fst_eq {hs : Nat → Int32} {nw : Int32} {c0 k : Nat} (hk : k ≤ c0) (h : ∀ i, i < k → hs i ≤ nw) : fst hs nw c0 k = fst hs nw c0 0 := by
  obtain ⟨a1, a2, a3, a4⟩ := fst_spec hs nw hk
  obtain ⟨b1, b2, b3, b4⟩ := fst_spec hs nw (Nat.zero_le c0)
  rcases Nat.lt_trichotomy (fst hs nw c0 k) (fst hs nw c0 0) with h1 | h1 | h1
  · exact absurd (b3 _ (Nat.zero_le _) h1) (a4 (by omega))
  · exact h1
  · refine absurd ?_ (b4 (by omega))
    by_cases h2 : fst hs nw c0 0 < k
    · exact h _ h2
    · exact a3 _ (by omega) h1
theorem sq8_congr {a R R' C C' : Nat → UInt64} (hR : ∀ r, r < 9 → R r = R' r) (hC : ∀ k, k < 4 → C k = C' k) : sq8 a R C = sq8 a R' C' := by
  have e3 : ∀ b, s3 b R = s3 b R' := fun b => by unfold s3; rw [hR 8 (by decide)]
  have e4 : ∀ b, s4 b C = s4 b C' := fun b => by unfold s4; rw [hC 0 (by decide)]
  have e5 : ∀ b, s5 b C = s5 b C' := fun b => by unfold s5 y5; rw [hC 1 (by decide)]
  have e6 : ∀ b, s6 b C = s6 b C' := fun b => by unfold s6 z6; rw [hC 2 (by decide)]
  have e7 : ∀ b, s7 b C = s7 b C' := fun b => by unfold s7; rw [hC 3 (by decide)]
  have e8 : ∀ b, s8 b R 4 = s8 b R' 4 := fun b => funext fun k => by
    unfold s8
    split
    · rename_i h; rw [hR _ (by omega)]
    · rfl
  unfold sq8 sq7 sq6 sq5 sq4 sq3
  rw [e3, e4, e5, e6, e7, e8]
/-- the steps that were told -/
def HG (hs : Nat → Int32) (ht : Nat → UInt64) (c0 : Nat) : Prop := ∀ i, i < c0 → (∃ h, h ≤ 1000000 ∧ hs i = nI h) ∧ ft_P (ht i) ∧ ft_z (ht i) ≤ 100 * FP.Core.one64
/-- the class and the reference at the second n -/
def RI (hs : Nat → Int32) (c0 b t n : Nat) (u : SS) (v : SN) : Prop :=
  u.1 = v.1 ∧ u.2.2.2.2.2.1 = nI n ∧ v.2.2.1 = nI n ∧ u.2.2.2.2.2.2 = v.2.2.2 ∧ GB (bd b n) u.1 ∧ ft_P u.2.2.2.2.2.2 ∧ ft_z u.2.2.2.2.2.2 ≤ t ∧ u.2.2.1 ≤ c0 ∧ (∀ i, i < u.2.2.1 → hs i ≤ nI n) ∧ ft_P u.2.2.2.2.1 ∧ (∀ k, k < 9 → u.2.2.2.1 k = rwv u.2.2.2.2.1 k (mk u.2.2.2.2.1))
theorem heat_ok {hs : Nat → Int32} {ht : Nat → UInt64} {c0 n t k : Nat} {T : UInt64} (hH : HG hs ht c0) (hn : n ≤ 1000000) (hT : ft_P T) (hTt : ft_z T ≤ t) (hR : ft_R t) (h200 : 200 * FP.Core.one64 ≤ t) (hk : k < c0 → ¬ hs k ≤ nI n) : (k < c0 → okH hs ht k (nI n) T) ∧ ft_P (heatT hs ht c0 k (nI n) T) ∧ ft_z (heatT hs ht c0 k (nI n) T) ≤ t := by
  unfold heatT
  by_cases h : k < c0
  · rw [if_pos h]
    obtain ⟨⟨x, hx1, hx2⟩, hd1, hd2⟩ := hH k h
    have hlt : n < x := by
      have := hk h
      rw [hx2] at this
      exact Nat.lt_of_not_le fun h2 => this (nI_le h2 (by omega))
    have hsub : hs k - nI n = nI (x - n) := by rw [hx2]; exact pk_sub (by omega)
    have h0 : 0 < (hs k - nI n).toInt := by rw [hsub, nI_toInt (by omega)]; omega
    obtain ⟨o1, o2, o3, o4⟩ := ft_heat (k := hs k - nI n) hT hd1 h0 hR hTt (by omega)
    exact ⟨fun _ => ⟨o1, o2, o3.n⟩, o3, o4⟩
  · rw [if_neg h]
    exact ⟨fun h2 => absurd h2 h, hT, hTt⟩
theorem RI_step {hs : Nat → Int32} {ht : Nat → UInt64} {c0 b t n : Nat} {A : UInt64} {u : SS} {v : SN} (h : RI hs c0 b t n u v) (hH : HG hs ht c0) (hA : ft_P A) (hb : b ≤ 2 ^ 32) (hn : n + 1 ≤ 1000000) (hR : ft_R t) (h200 : 200 * FP.Core.one64 ≤ t) :
    okS hs ht c0 A u ∧ okN hs ht c0 A v ∧ RI hs c0 b t (n + 1) (secS hs ht c0 A u) (secN hs ht c0 A v) := by
  obtain ⟨e1, e2, e3, e4, hG, hT, hTt, hk, hki, hra, hrv⟩ := h
  have hKe : scK hs c0 u = fst hs (nI n) c0 0 := by unfold scK; rw [e2]; exact fst_eq hk hki
  obtain ⟨b1, b2, b3, b4⟩ := fst_spec hs (nI n) (Nat.zero_le c0)
  obtain ⟨o1, o2, o3⟩ := heat_ok (k := fst hs (nI n) c0 0) hH (by omega) hT hTt hR h200 b4
  have hT1 : scT hs ht c0 u = heatT hs ht c0 (fst hs (nI n) c0 0) (nI n) u.2.2.2.2.2.2 := by unfold scT; rw [hKe, e2]
  have hT2 : snT hs ht c0 v = scT hs ht c0 u := by unfold snT; rw [hT1, e3, ← e4]
  rw [← hT1] at o2 o3
  have hU : ∀ (rv : Nat → UInt64) r, r < 9 → ft_U (rwA (scT hs ht c0 u) 9 rv r) := fun rv r hr => by rw [rwA_in _ hr]; exact rw_P o2 hr
  have hCc : ∀ k, k < 4 → scC hs ht c0 A u k = actE u.1 (scR hs ht c0 u) A k := fun k hk => if_pos hk
  have hCn : ∀ k, k < 4 → snC hs ht c0 A v k = actE v.1 (snR hs ht c0 v) A k := fun k hk => if_pos hk
  obtain ⟨q1, q2⟩ := sec_ok (C := scC hs ht c0 A u) (R := scR hs ht c0 u) hG hb (by omega) (fun r hr => hU _ r hr) hA hCc
  obtain ⟨p1, p2⟩ := sec_ok (a := v.1) (C := snC hs ht c0 A v) (R := snR hs ht c0 v) (e1 ▸ hG) hb (by omega) (fun r hr => by unfold snR; rw [hT2]; exact hU _ r hr) hA hCn
  have hRR : ∀ r, r < 9 → scR hs ht c0 u r = snR hs ht c0 v r := fun r hr => by unfold scR snR; rw [hT2, rwA_in _ hr, rwA_in _ hr]
  have hCC : ∀ k, k < 4 → scC hs ht c0 A u k = snC hs ht c0 A v k := fun k hk => by
    rw [hCc k hk, hCn k hk, ← e1]
    unfold actE
    rw [hRR k (by omega)]
  have hs8 : sq8 u.1 (scR hs ht c0 u) (scC hs ht c0 A u) = sq8 v.1 (snR hs ht c0 v) (snC hs ht c0 A v) := by rw [← e1]; exact sq8_congr hRR hCC
  refine ⟨⟨hk, ?_, hra, o2, hrv, q1⟩, ⟨?_, by rw [hT2]; exact o2, p1⟩, hs8, ?_, ?_, hT2.symm, q2, o2, o3, ?_, ?_, o2, ?_⟩
  · rw [hKe, e2]; exact o1
  · rw [e3, ← e4]; exact o1
  · show u.2.2.2.2.2.1 + 1 = nI (n + 1)
    rw [e2]; exact nI_1 n
  · show v.2.2.1 + 1 = nI (n + 1)
    rw [e3]; exact nI_1 n
  · show scK hs c0 u ≤ c0
    rw [hKe]; exact b2
  · show ∀ i, i < scK hs c0 u → hs i ≤ nI (n + 1)
    intro i hi
    rw [hKe] at hi
    exact Int32.le_trans (b3 i (Nat.zero_le _) hi) (nI_le (by omega) (by omega))
  · show ∀ k, k < 9 → scR hs ht c0 u k = rwv (scT hs ht c0 u) k (mk (scT hs ht c0 u))
    intro k hk
    exact rwA_in _ hk _
theorem RI_run {hs : Nat → Int32} {ht : Nat → UInt64} {c0 b t n : Nat} {A : UInt64} {u : SS} {v : SN} (h : RI hs c0 b t n u v) (hH : HG hs ht c0) (hA : ft_P A) (hb : b ≤ 2 ^ 32) (hR : ft_R t) (h200 : 200 * FP.Core.one64 ≤ t) :
    ∀ i, n + i ≤ 1000000 → RI hs c0 b t (n + i) (itS hs ht c0 A i u) (itN hs ht c0 A i v)
  | 0, _ => h
  | i + 1, hi => (RI_step (RI_run h hH hA hb hR h200 i (by omega)) hH hA hb (by omega) hR h200).2.2
end
section
/-! each call keeps the bounds -/
theorem bd_mono {b b' n n' : Nat} (hb : b ≤ b') (hn : n ≤ n') (i : Nat) : bd b n i ≤ bd b' n' i := by
  unfold bd
  have h : (n + 1) * b ≤ (n' + 1) * b' := Nat.mul_le_mul (by omega) hb
  split
  · exact h
  · split
    · exact Nat.mul_le_mul_right _ h
    · split
      · exact Nat.mul_le_mul_right _ h
      · exact hb
theorem bd_ge (b n i : Nat) : b ≤ bd b n i := by
  unfold bd
  have h : b ≤ (n + 1) * b := Nat.le_mul_of_pos_left _ (by omega)
  split
  · exact h
  · split
    · exact Nat.le_trans h (Nat.le_mul_of_pos_right _ (by decide))
    · split
      · exact Nat.le_trans h (Nat.le_mul_of_pos_right _ (by decide))
      · exact Nat.le_refl _
theorem GB.mb {b b' n n' : Nat} {a : Nat → UInt64} (h : GB (bd b n) a) (hb : b ≤ b') (hn : n ≤ n') : GB (bd b' n') a := h.mono fun i _ => bd_mono hb hn i
theorem GB.put {b n : Nat} {a : Nat → UInt64} (h : GB (bd b n) a) {k : Nat} {x : UInt64} (hx : ft_P x) (hz : ft_z x ≤ b * FP.Core.one64) : GB (bd b n) (vf_upd a k x) := h.keep hx (Nat.le_trans hz (Nat.mul_le_mul_right _ (bd_ge b n k)))
/-- b and a few more -/
theorem b_R {b : Nat} (hb : b ≤ 2 ^ 34) : ft_R (b * FP.Core.one64) := by
  have := ft_R_one (m := b) (e := 0) (Nat.lt_of_le_of_lt hb (by decide)) (by decide)
  rwa [Nat.pow_zero, Nat.mul_one] at this
/-- a plain amount grows by at most k -/
theorem add_b {b k : Nat} {x y : UInt64} (hx : ft_P x) (hxz : ft_z x ≤ b * FP.Core.one64) (hy : ft_P y) (hyz : ft_z y ≤ k * FP.Core.one64) (hk : k ≤ 10000) (hb : b ≤ 2 ^ 33) : ft_P (FP.dadd x y) ∧ ft_z (FP.dadd x y) ≤ (b + 10000) * FP.Core.one64 ∧ ft_z x ≤ ft_z (FP.dadd x y) ∧ ft_z y ≤ ft_z (FP.dadd x y) :=
  ft_add hx hy (b_R (by omega)) (by
    have h1 : k * FP.Core.one64 ≤ 10000 * FP.Core.one64 := Nat.mul_le_mul_right _ hk
    rw [Nat.add_mul]
    omega)
/-- nothing times, nothing more -/
theorem ft_mz {x : UInt64} (h : ft_P x) : FP.dmul x 0 = 0 := by
  have hz := FP.Core.dmul_zero (a := x) (z := 0) h.fin ⟨false, _, FP.Core.val64_zero⟩
  obtain ⟨m1, -⟩ := ft_mul_le h ft_0P (by rw [ft_0z]; exact Nat.zero_le _)
  refine ft_inj m1 ft_0P ?_
  exact FP.Core.zero_iff.mpr hz
theorem ft_az {x : UInt64} (h : ft_P x) : FP.dadd x 0 = x := by
  refine FP.Core.dadd_zero h.fin.ne_nan fun e => ?_
  have := ft_bits h
  rw [e] at this
  exact absurd this (by decide)
theorem gp_U : ∀ k, k < 3 → ft_isP (gpD k) = true ∧ ft_z (gpD k) ≤ FP.Core.one64 := by decide +kernel
theorem ge_U : ∀ k, k < 3 → ∀ e, e < 4 → ft_isP (geD k e) = true ∧ ft_z (geD k e) ≤ FP.Core.one64 := by decide +kernel
theorem ge_1 : ∀ e, e < 4 → geD 1 e = 0 := by decide +kernel
theorem bd_pl {b n i : Nat} (h : i = 0 ∨ i = 1 ∨ 8 ≤ i) : bd b n i = b := by
  unfold bd
  rw [if_neg (by omega), if_neg (by omega), if_neg (by omega)]
theorem grain_ok {b n k : Nat} {a : Nat → UInt64} {kg st ts : UInt64} (hG : GB (bd b n) a) (hb : b ≤ 2 ^ 33) (hk : k < 3) (h1 : ft_P kg) (h2 : ft_z kg ≤ 1000 * FP.Core.one64) (h3 : ft_U st) (h4 : ft_P ts) (h5 : ft_z ts ≤ b * FP.Core.one64) :
    okG kg st k a ts ∧ GB (bd (b + 10000) n) (grA kg st k a) ∧ ft_P (FP.dadd ts (FP.dmul kg st)) ∧ ft_z (FP.dadd ts (FP.dmul kg st)) ≤ (b + 10000) * FP.Core.one64 ∧ (k = 1 → ∀ i, i < 4 → FP.dadd (a (9 + i)) (FP.dmul kg (geD 1 i)) = a (9 + i)) := by
  have pl : ∀ i, i < 13 → (i = 0 ∨ i = 1 ∨ 8 ≤ i) → ft_P (a i) ∧ ft_z (a i) ≤ b * FP.Core.one64 := fun i hi h => by
    have := hG i hi
    rwa [bd_pl h] at this
  have mu : ∀ y, ft_P y → ft_z y ≤ FP.Core.one64 → ft_P (FP.dmul kg y) ∧ ft_z (FP.dmul kg y) ≤ 1000 * FP.Core.one64 := fun y y1 y2 => by
    obtain ⟨m1, m2⟩ := ft_mul_le h1 y1 y2
    exact ⟨m1, Nat.le_trans m2 h2⟩
  obtain ⟨m1, m2⟩ := mu st h3.1 h3.2
  obtain ⟨g1, g2⟩ := gp_U k hk
  obtain ⟨p1, p2⟩ := mu (gpD k) (ft_isP_P g1) g2
  obtain ⟨u1, u2, -⟩ := add_b (pl 1 (by decide) (Or.inr (Or.inl rfl))).1 (pl 1 (by decide) (Or.inr (Or.inl rfl))).2 m1 m2 (by decide) hb
  obtain ⟨t1, t2, -⟩ := add_b h4 h5 m1 m2 (by decide) hb
  obtain ⟨v1, v2, -⟩ := add_b (pl 8 (by decide) (by omega)).1 (pl 8 (by decide) (by omega)).2 p1 p2 (by decide) hb
  have en : ∀ i, i < 4 → ft_P (FP.dmul kg (geD k i)) ∧ ft_P (FP.dadd (a (9 + i)) (FP.dmul kg (geD k i))) ∧ ft_z (FP.dadd (a (9 + i)) (FP.dmul kg (geD k i))) ≤ (b + 10000) * FP.Core.one64 := fun i hi => by
    obtain ⟨g1, g2⟩ := ge_U k hk i hi
    obtain ⟨q1, q2⟩ := mu (geD k i) (ft_isP_P g1) g2
    obtain ⟨w1, w2, -⟩ := add_b (pl (9 + i) (by omega) (by omega)).1 (pl (9 + i) (by omega) (by omega)).2 q1 q2 (by decide) hb
    exact ⟨q1, w1, w2⟩
  refine ⟨⟨m1.n, u1.n, t1.n, p1.n, v1.n, fun i hi => ⟨(en i hi).1.n, (en i hi).2.1.n⟩⟩, ?_, t1, t2, ?_⟩
  · have h6 : GB (bd (b + 10000) n) (gr2 kg st k a) := ((hG.mb (by omega) (Nat.le_refl _)).put u1 u2).put v1 v2
    intro i hi
    unfold grA grE
    by_cases h : 9 ≤ i ∧ i < 9 + 4
    · rw [if_pos h]
      have h7 := (en (i - 9) (by omega)).2
      have h8 := gr2_at kg st k a (i - 9)
      rw [show 9 + (i - 9) = i by omega] at h7 h8
      rw [h8, bd_pl (by omega)]
      exact h7
    · rw [if_neg h]
      exact h6 i hi
  · intro hk1 i hi
    subst hk1
    obtain ⟨e1, -⟩ := pl (9 + i) (by omega) (by omega)
    rw [ge_1 i hi]
    have h9 : FP.dmul kg 0 = 0 := ft_mz h1
    rw [h9]
    exact ft_az e1
end
section
/-! liquor, decoctions, arguments -/
theorem ft_pow {k k' : Nat} (h : k ≤ k') {x : Nat} (hx : x ≤ 2 ^ k * FP.Core.one64) : x ≤ 2 ^ k' * FP.Core.one64 := Nat.le_trans hx (Nat.mul_le_mul_right _ (Nat.pow_le_pow_right (by decide) h))
theorem mix_ok {T W d l : UInt64} {k e : Nat} (hT : ft_P T) (hW : ft_P W) (hd : ft_P d) (hl : ft_P l) (hTn : ft_z T ≤ 2 ^ k * FP.Core.one64) (hdn : ft_z d ≤ 2 ^ k * FP.Core.one64)
    (hs : ft_P (FP.dadd W l)) (hsW : ft_z W ≤ ft_z (FP.dadd W l)) (hsl : ft_z l ≤ ft_z (FP.dadd W l)) (hse : ft_z (FP.dadd W l) ≤ 2 ^ e) (hke : e + (k + 1) ≤ 2045) (hk : k + 1 ≤ 971) :
    okM T W d l ∧ ft_P (mixD T W d l) ∧ ft_z (mixD T W d l) ≤ 2 ^ (k + 1) * FP.Core.one64 := by
  unfold okM mixD
  by_cases hg : FP.dcmp (FP.dadd W l) 0 = some .gt
  · rw [if_pos hg]
    have h0 := (ft_gt hs ft_0P).mp hg
    rw [ft_0z] at h0
    obtain ⟨o1, o2, o3, o4, o5, o6⟩ := ft_mix hT hW hd hl hTn hdn hs hsW hsl h0 hse hke hk
    exact ⟨⟨hs.n, fun _ => ⟨o1, o2, o3, o4⟩⟩, o5, o6⟩
  · rw [if_neg hg]
    exact ⟨⟨hs.n, fun h => absurd h hg⟩, hT, ft_pow (Nat.le_succ k) hTn⟩
theorem liquor_ok {b n k : Nat} {a : Nat → UInt64} {T A li d ac : UInt64} (hG : GB (bd b n) a) (hb : b ≤ 2 ^ 33) (hT : ft_P T) (hTn : ft_z T ≤ 2 ^ k * FP.Core.one64) (hA : ft_P A) (hAn : ft_z A ≤ 2 ^ k * FP.Core.one64) (hk : 8 ≤ k) (hk2 : k ≤ 600)
    (h1 : ft_P li) (h2 : 0 < ft_z li) (h3 : ft_z li ≤ 10000 * FP.Core.one64) (h4 : ft_P d) (h5 : ft_z d ≤ 100 * FP.Core.one64) (h6 : ft_P ac) (h7 : ft_z ac ≤ 8 * FP.Core.one64) :
    (okM T (a 0) d li ∧ okM A (a 0) ac li) ∧ FP.dcmp (FP.dadd (a 0) li) 0 = some .gt ∧ (ft_P (mixD T (a 0) d li) ∧ ft_z (mixD T (a 0) d li) ≤ 2 ^ (k + 1) * FP.Core.one64) ∧ (ft_P (mixD A (a 0) ac li) ∧ ft_z (mixD A (a 0) ac li) ≤ 2 ^ (k + 1) * FP.Core.one64) ∧ GB (bd (b + 10000) n) (vf_upd a 0 (FP.dadd (a 0) li)) := by
  obtain ⟨w1, w2⟩ := hG 0 (by decide)
  rw [bd_pl (Or.inl rfl)] at w2
  obtain ⟨s1, s2, s3, s4⟩ := add_b w1 w2 h1 h3 (Nat.le_refl _) hb
  have hse : ft_z (FP.dadd (a 0) li) ≤ 2 ^ (34 + 1074) := Nat.le_trans s2 (ft_oneS (by omega))
  have c8 : ∀ {x m : Nat}, x ≤ m * FP.Core.one64 → m ≤ 256 → x ≤ 2 ^ k * FP.Core.one64 := fun {x m} hx hm => Nat.le_trans hx (Nat.mul_le_mul_right _ (Nat.le_trans hm (Nat.pow_le_pow_right (n := 2) (by decide) hk)))
  have g1 := mix_ok hT w1 h4 h1 hTn (c8 h5 (by decide)) s1 s3 s4 hse (by omega) (by omega)
  have g2 := mix_ok hA w1 h6 h1 hAn (c8 h7 (by decide)) s1 s3 s4 hse (by omega) (by omega)
  refine ⟨⟨g1.1, g2.1⟩, ?_, g1.2, g2.2, (hG.mb (by omega) (Nat.le_refl _)).put s1 s2⟩
  rw [ft_gt s1 ft_0P, ft_0z]
  omega
theorem bd_Rall {b n : Nat} (hb : b ≤ 2 ^ 32) (hn : n ≤ 2 ^ 20) (i : Nat) : ft_R (bd b n i * FP.Core.one64) := by
  unfold bd
  split
  · have := bd_R (e := 0) hb hn (by decide); rwa [Nat.pow_zero, Nat.mul_one] at this
  · split
    · exact bd_R hb hn (by decide)
    · split
      · exact bd_R hb hn (by decide)
      · exact b_R (by omega)
theorem bd_2 (b n i : Nat) : bd (2 * b) n i = 2 * bd b n i := by
  unfold bd
  have h : (n + 1) * (2 * b) = 2 * ((n + 1) * b) := by rw [Nat.mul_left_comm]
  rw [h]
  split
  · rfl
  · split
    · rw [Nat.mul_assoc]
    · split
      · rw [Nat.mul_assoc]
      · rfl
theorem back_ok {b n k : Nat} {a r : Nat → UInt64} {T d : UInt64} (hG : GB (bd b n) a) (hr : GB (bd b n) r) (hb : b ≤ 2 ^ 31) (hn : n ≤ 2 ^ 20) (hT : ft_P T) (hTn : ft_z T ≤ 2 ^ k * FP.Core.one64) (hk : 8 ≤ k) (hk2 : k ≤ 600) (h4 : ft_P d) (h5 : ft_z d ≤ 100 * FP.Core.one64) :
    okM T (a 0) d (r 0) ∧ (∀ i, i < 13 → vf_n64 (FP.dadd (a i) (r i))) ∧ (ft_P (mixD T (a 0) d (r 0)) ∧ ft_z (mixD T (a 0) d (r 0)) ≤ 2 ^ (k + 1) * FP.Core.one64) ∧ GB (bd (2 * b) n) (bkA a r 13) := by
  have key : ∀ i, i < 13 → ft_P (FP.dadd (a i) (r i)) ∧ ft_z (FP.dadd (a i) (r i)) ≤ bd (2 * b) n i * FP.Core.one64 ∧ ft_z (a i) ≤ ft_z (FP.dadd (a i) (r i)) ∧ ft_z (r i) ≤ ft_z (FP.dadd (a i) (r i)) := fun i hi => by
    obtain ⟨x1, x2⟩ := hG i hi
    obtain ⟨y1, y2⟩ := hr i hi
    refine ft_add x1 y1 (bd_Rall (by omega) hn i) ?_
    rw [bd_2, Nat.mul_assoc]
    omega
  obtain ⟨s1, s2, s3, s4⟩ := key 0 (by decide)
  rw [bd_pl (Or.inl rfl)] at s2
  have hse : ft_z (FP.dadd (a 0) (r 0)) ≤ 2 ^ (34 + 1074) := Nat.le_trans s2 (ft_oneS (by omega))
  have g1 := mix_ok hT (hG 0 (by decide)).1 h4 (hr 0 (by decide)).1 hTn (Nat.le_trans h5 (Nat.mul_le_mul_right _ (Nat.le_trans (by decide) (Nat.pow_le_pow_right (n := 2) (by decide) hk)))) s1 s3 s4 hse (by omega) (by omega)
  refine ⟨g1.1, fun i hi => (key i hi).1.n, g1.2, fun i hi => ?_⟩
  unfold bkA
  rw [if_pos hi]
  exact ⟨(key i hi).1, (key i hi).2.1⟩
theorem take_ok {f : Nat → Nat} {a r : Nat → UInt64} {sh : UInt64} (hG : GB f a) (hs : ft_U sh) : (∀ i, i < 13 → vf_n64 (FP.dmul (a i) sh) ∧ vf_n64 (FP.dsub (a i) (FP.dmul (a i) sh))) ∧ GB f (tkA a sh 13) ∧ GB f (tkD a sh 13 r) := by
  have key : ∀ i, i < 13 → (ft_P (FP.dmul (a i) sh) ∧ ft_z (FP.dmul (a i) sh) ≤ f i * FP.Core.one64) ∧ (ft_P (FP.dsub (a i) (FP.dmul (a i) sh)) ∧ ft_z (FP.dsub (a i) (FP.dmul (a i) sh)) ≤ f i * FP.Core.one64) := fun i hi => by
    obtain ⟨x1, x2⟩ := hG i hi
    obtain ⟨m1, m2⟩ := ft_mul_le x1 hs.1 hs.2
    obtain ⟨s1, s2⟩ := ft_sub_le x1 m1 m2
    exact ⟨⟨m1, Nat.le_trans m2 x2⟩, s1, Nat.le_trans s2 x2⟩
  refine ⟨fun i hi => ⟨(key i hi).1.1.n, (key i hi).2.1.n⟩, fun i hi => ?_, fun i hi => ?_⟩
  · unfold tkA; rw [if_pos hi]; exact (key i hi).2
  · unfold tkD; rw [if_pos hi]; exact (key i hi).1
theorem starch_ok {b n : Nat} {a : Nat → UInt64} {ts : UInt64} (hG : GB (bd b n) a) (hb : b ≤ 2 ^ 32) (hn : n + 1 ≤ 2 ^ 20) (hts : ft_P ts) : vf_n64 (FP.dadd (a 1) (a 2)) ∧ vf_n64 (FP.dmul 4638707616191610880 (FP.dadd (a 1) (a 2))) ∧ FP.dcmp (FP.dmul 4638707616191610880 (FP.dadd (a 1) (a 2))) ts ≠ none := by
  obtain ⟨x1, x2⟩ := hG 1 (by decide)
  obtain ⟨y1, y2⟩ := hG 2 (by decide)
  have e1 : bd b n 1 = b := rfl
  have e2 : bd b n 2 = (n + 1) * b := rfl
  rw [e1] at x2
  rw [e2] at y2
  have h3 : (n + 1 + 1) * b = (n + 1) * b + b := by rw [Nat.add_mul (n + 1), Nat.one_mul]
  obtain ⟨s1, s2, -⟩ := ft_add x1 y1 (n := (n + 1 + 1) * b * FP.Core.one64) (by have := bd_R (b := b) (n := n + 1) (e := 0) hb hn (by decide); rwa [Nat.pow_zero, Nat.mul_one] at this) (by rw [h3, Nat.add_mul]; omega)
  have k1 : ft_P 4638707616191610880 := ft_cP (by decide +kernel)
  have k2 : ft_z 4638707616191610880 = 2 ^ 7 * FP.Core.one64 := by decide +kernel
  obtain ⟨m1, -⟩ := ft_mul k1 s1 (n := (n + 1 + 1) * b * 2 ^ 7 * FP.Core.one64) (bd_R hb hn (by decide)) (by
    rw [k2]
    calc 2 ^ 7 * FP.Core.one64 * ft_z (FP.dadd (a 1) (a 2)) ≤ 2 ^ 7 * FP.Core.one64 * ((n + 1 + 1) * b * FP.Core.one64) := Nat.mul_le_mul_left _ s2
      _ = (n + 1 + 1) * b * 2 ^ 7 * FP.Core.one64 * FP.Core.one64 := by
        rw [Nat.mul_comm (2 ^ 7 * FP.Core.one64)]
        exact ft_ac1 _ _ _ _)
  exact ⟨s1.n, m1.n, ft_some m1 hts⟩
/-! arguments: eighths of whole numbers -/
def ag (x : Int32) : UInt64 := FP.dmul (FP.i2d x) 4593671619917905920
theorem ag_pos {x : Int32} (h : 0 ≤ x.toInt) : ft_P (ag x) := (ft_mul_le (ft_i2d h).1 ft_k125.1 ft_k125.2).1
theorem ag_neg {x : Int32} (h : x.toInt < 0) : ∃ c q, FP.Core.val64 (ag x) = .fin true c q ∧ 0 < FP.Core.zmag FP.Core.b64 (.fin true c q) := by
  have e1 : FP.i2d x = FP.Core.l2d x.toInt64 := FP.Core.i2d_l2d x
  obtain ⟨c, q, e2⟩ := FP.Core.l2d_shape x.toInt64
  have e3 : x.toInt64.toInt = x.toInt := Int32.toInt_toInt64 x
  have hs : decide (x.toInt64.toInt < 0) = true := by rw [e3]; exact decide_eq_true h
  rw [hs, ← e1] at e2
  have hz : FP.Core.zval FP.Core.b64 (FP.Core.val64 (FP.i2d x)) = x.toInt * (FP.Core.one64 : Int) := FP.Core.DInt_zval (FP.Core.i2d_int x)
  rw [e2, ft_zvT] at hz
  have hone : (0 : Int) < (FP.Core.one64 : Int) := by have := ft_one_pos; omega
  have hge : FP.Core.one64 ≤ FP.Core.zmag FP.Core.b64 (.fin true c q) := by
    have h1 : x.toInt * (FP.Core.one64 : Int) ≤ (-1) * (FP.Core.one64 : Int) := Int.mul_le_mul_of_nonneg_right (by omega) (by omega)
    omega
  obtain ⟨cd, qd, ed⟩ := ft_k125.1
  have ez : ft_z 0x3FC0000000000000 = FP.Core.zmag FP.Core.b64 (.fin false cd qd) := by unfold ft_z; rw [ed]
  have hv : FP.Core.val64 (ag x) = _ := FP.Core.val64_dmul (FP.i2d x) 0x3FC0000000000000
  rw [e2, ed] at hv
  obtain ⟨c2, q2, m1, m2⟩ := ft_mulS (ft_fit e2) (ft_fit ed) (ft_RS (ft_fit e2)) (Nat.mul_le_mul_left _ (by rw [← ez]; exact ft_k125.2))
  refine ⟨c2, q2, hv.trans m1, ?_⟩
  have hg := FP.Core.product_units (ft_fit e2) (ft_fit ed)
  have hq := FP.Core.qmin_b64
  have g := FP.Core.zmag_roundRatio_ge (s := true) (A := c * cd) (B := 1) (e := q + qd) (e0 := 2 * FP.Core.b64.qmin) (V := .fin false cd qd) FP.Core.good_b64 (by decide) (ft_fit ed) (by omega) hg.2.1 (by
    rw [hg.2.2, Nat.mul_one, show FP.Core.b64.qmin - 2 * FP.Core.b64.qmin = -FP.Core.b64.qmin by omega, ← ft_one_eq, Nat.mul_comm]
    exact Nat.mul_le_mul_right _ hge)
  rw [hg.1] at m1
  have m1' : FP.Core.roundRatio FP.Core.b64 true (c * cd) 1 (q + qd) = .fin true c2 q2 := m1
  rw [m1', ← ez] at g
  have h8 := ft_k8th
  have := ft_one_pos
  omega
theorem ag_fin (x : Int32) : FP.Core.DFin (ag x) := by
  by_cases h : 0 ≤ x.toInt
  · exact (ag_pos h).fin
  · obtain ⟨c, q, e, -⟩ := ag_neg (x := x) (by omega)
    exact ⟨true, c, q, e⟩
theorem ag_no (x : Int32) : nNo (ag x) := fun y hy => by
  have hy : FP.Core.val64 y ≠ .nan := by
    rcases hy with rfl | rfl | rfl | rfl | rfl | rfl | rfl <;> decide +kernel
  intro h
  rcases (FP.Core.dcmp_none _ _).mp h with h | h
  · exact (ag_fin x).ne_nan h
  · exact hy h
/-- an argument below zero is below every number without sign -/
theorem ag_lt {x : Int32} (h : x.toInt < 0) {y : UInt64} (hy : ft_P y) : FP.dcmp (ag x) y = some .lt := by
  obtain ⟨c, q, e, h0⟩ := ag_neg h
  refine FP.Core.dcmp_lt.mpr ⟨(ag_fin x).ne_nan, hy.fin.ne_nan, ?_⟩
  rw [e, ft_zvT, hy.zv]
  omega
theorem ag_P {x : Int32} {y : UInt64} (hy : ft_P y) (h : FP.dcmp (ag x) y ≠ some .lt) : ft_P (ag x) := by
  by_cases h2 : 0 ≤ x.toInt
  · exact ag_pos h2
  · exact absurd (ag_lt (by omega) hy) h
theorem ag_vf (x : Int32) : vf_n64 (ag x) := ft_fn (ag_fin x)
theorem z_le {a b : UInt64} {m : Nat} (ha : ft_P a) (hb : ft_P b) (hz : ft_z b = m * FP.Core.one64) (h : ¬ FP.dcmp a b = some .gt) : ft_z a ≤ m * FP.Core.one64 := by
  rw [ft_gt ha hb] at h
  omega
theorem c1000 : ft_P 4652007308841189376 ∧ ft_z 4652007308841189376 = 1000 * FP.Core.one64 := ⟨ft_cP (by decide +kernel), by decide +kernel⟩
theorem c10000 : ft_P 4666723172467343360 ∧ ft_z 4666723172467343360 = 10000 * FP.Core.one64 := ⟨ft_cP (by decide +kernel), by decide +kernel⟩
theorem c100 : ft_P 4636737291354636288 ∧ ft_z 4636737291354636288 = 100 * FP.Core.one64 := ⟨ft_cP (by decide +kernel), by decide +kernel⟩
theorem c3 : ft_P 4613937818241073152 := ft_cP (by decide +kernel)
theorem c8 : ft_P 4620693217682128896 ∧ ft_z 4620693217682128896 = 8 * FP.Core.one64 := ⟨ft_cP (by decide +kernel), by decide +kernel⟩
theorem tp_P {x : Int32} (h : tpOK (ag x)) : ft_P (ag x) ∧ ft_z (ag x) ≤ 100 * FP.Core.one64 := by
  have h1 : ft_P (ag x) := ag_P ft_0P (fun h2 => by rcases h.1 with h3 | h3 <;> rw [h2] at h3 <;> cases h3)
  exact ⟨h1, z_le h1 c100.1 c100.2 (fun h2 => by rcases h.2 with h3 | h3 <;> rw [h2] at h3 <;> cases h3)⟩
theorem gt_P {x : Int32} (h : FP.dcmp (ag x) 0 = some .gt) : ft_P (ag x) ∧ 0 < ft_z (ag x) := by
  have h1 : ft_P (ag x) := ag_P ft_0P (fun h2 => by rw [h] at h2; cases h2)
  have := (ft_gt h1 ft_0P).mp h
  rw [ft_0z] at this
  exact ⟨h1, this⟩
/-! decoctions that are back -/
def cnt (ib : Nat → Int32) : Nat → Nat
  | 0 => 0
  | n + 1 => cnt ib n + (if ib n = 0 then 0 else 1)
theorem cnt_le (ib : Nat → Int32) : ∀ n, cnt ib n ≤ n
  | 0 => Nat.le_refl _
  | n + 1 => by
    have := cnt_le ib n
    unfold cnt
    split <;> omega
theorem cnt_same {ib : Nat → Int32} {k : Nat} {x : Int32} : ∀ n, n ≤ k → cnt (upd ib k x) n = cnt ib n
  | 0, _ => rfl
  | n + 1, h => by
    unfold cnt
    rw [cnt_same n (by omega), show upd ib k x n = ib n from if_neg (by omega)]
theorem cnt_up {ib : Nat → Int32} {k : Nat} (h0 : ib k = 0) : ∀ n, k < n → cnt (upd ib k 1) n = cnt ib n + 1
  | 0, h => by omega
  | n + 1, h => by
    unfold cnt
    by_cases e : k = n
    · subst e
      rw [cnt_same k (Nat.le_refl _), show upd ib k 1 k = 1 from if_pos rfl, h0, if_neg (by decide), if_pos rfl]
    · rw [cnt_up h0 n (by omega), show upd ib k 1 n = ib n from if_neg (by omega)]
      omega
end
section
/-! the class and the reference behind c calls -/
def JI (c : Nat) (u : SS) (dv : Nat → Nat → UInt64) (ib hs : Nat → Int32) (ht : Nat → UInt64) (c0 kd : Nat) (A ts : UInt64) (pa : Nat → UInt64) : Prop :=
  ∃ b n : Nat, b ≤ 10000 * (c * 2 ^ cnt ib 8) ∧ n ≤ 1000000 ∧ u.2.2.2.2.2.1 = nI n ∧ GB (bd b n) u.1 ∧ (∀ i, i < kd → GB (bd b n) (dv i)) ∧ ft_P ts ∧ ft_z ts ≤ b * FP.Core.one64 ∧ ft_P u.2.2.2.2.2.2 ∧ ft_z u.2.2.2.2.2.2 ≤ 2 ^ (8 + c) * FP.Core.one64 ∧ ft_P A ∧ ft_z A ≤ 2 ^ (8 + c) * FP.Core.one64 ∧ kd ≤ 8 ∧ c0 ≤ 32 ∧ HG hs ht c0 ∧
    u.2.2.1 ≤ c0 ∧ (∀ i, i < u.2.2.1 → hs i ≤ nI n) ∧ ft_P u.2.2.2.2.1 ∧ (∀ k, k < 9 → u.2.2.2.1 k = rwv u.2.2.2.2.1 k (mk u.2.2.2.2.1)) ∧ (∀ i, i < kd → ∀ m, m < 13 → pa (13 * i + m) = dv i m) ∧ (∀ i, kd ≤ i → ib i = 0)
theorem b_31 {b c : Nat} {ib : Nat → Int32} (h : b ≤ 10000 * (c * 2 ^ cnt ib 8)) (hc : c ≤ 512) : b ≤ 2 ^ 31 := by
  have h1 : 2 ^ cnt ib 8 ≤ 2 ^ 8 := Nat.pow_le_pow_right (by decide) (cnt_le ib 8)
  have h2 : c * 2 ^ cnt ib 8 ≤ 512 * 2 ^ 8 := Nat.mul_le_mul hc h1
  have h3 : (512 * 2 ^ 8 : Nat) = 131072 := by decide
  have h4 : (2 ^ 31 : Nat) = 2147483648 := by decide
  omega
theorem b_next {b c : Nat} {ib : Nat → Int32} (h : b ≤ 10000 * (c * 2 ^ cnt ib 8)) : b + 10000 ≤ 10000 * ((c + 1) * 2 ^ cnt ib 8) := by
  have h1 : 0 < 2 ^ cnt ib 8 := Nat.two_pow_pos _
  rw [Nat.add_mul, Nat.one_mul]
  omega
section JX
variable {c : Nat} {u : SS} {dv : Nat → Nat → UInt64} {ib hs : Nat → Int32} {ht : Nat → UInt64} {c0 kd : Nat} {A ts : UInt64} {pa : Nat → UInt64}
theorem JI.next (h : JI c u dv ib hs ht c0 kd A ts pa) : JI (c + 1) u dv ib hs ht c0 kd A ts pa := by
  obtain ⟨b, n, j1, j2, j3, j4, j5, j6, j7, j8, j9, j10, j11, j12, j13, j14, j15, j16, j17, j18, j19, j20⟩ := h
  exact ⟨b, n, Nat.le_trans (Nat.le_add_right _ _) (b_next j1), j2, j3, j4, j5, j6, j7, j8, ft_pow (by omega) j9, j10, ft_pow (by omega) j11, j12, j13, j14, j15, j16, j17, j18, j19, j20⟩
theorem ft_mz2 {x : UInt64} (h : FP.Core.DFin x) {y : UInt64} (hy : ft_P y) : FP.dadd y (FP.dmul x 0) = y := by
  have hz := FP.Core.dmul_zero (a := x) (z := 0) h ⟨false, _, FP.Core.val64_zero⟩
  rcases FP.Core.zero_bits (FP.Core.zero_iff.mpr hz) with e | e
  · have e : FP.dmul x 0 = 0 := e
    rw [e]; exact ft_az hy
  · have e : FP.dmul x 0 = FP.Core.dzeroNeg := e
    rw [e]; exact FP.Core.dadd_zeroNeg hy.fin.ne_nan
theorem J_raw (h : JI c u dv ib hs ht c0 kd A ts pa) (x : Int32) : ∀ i, i < 4 → FP.dadd (u.1 (9 + i)) (FP.dmul (ag x) (geD 1 i)) = u.1 (9 + i) := fun i hi => by
  obtain ⟨b, n, -, -, -, j4, -⟩ := h
  rw [ge_1 i hi]
  exact ft_mz2 (ag_fin x) (j4 (9 + i) (by omega)).1
theorem J_grain (h : JI c u dv ib hs ht c0 kd A ts pa) (hc : c ≤ 511) (x1 x2 x3 : Int32) (hz : grOK (ag x1) (ag x2) x3) : okG (ag x1) (ag x2) x3.toNatClampNeg u.1 ts ∧ JI (c + 1) (grA (ag x1) (ag x2) x3.toNatClampNeg u.1, u.2) dv ib hs ht c0 kd A (FP.dadd ts (FP.dmul (ag x1) (ag x2))) pa := by
  obtain ⟨b, n, j1, j2, j3, j4, j5, j6, j7, j8, j9, j10, j11, j12, j13, j14, j15, j16, j17, j18, j19, j20⟩ := h
  have hb := b_31 j1 (by omega)
  obtain ⟨z1, z2, z3, z4, z5, z6⟩ := hz
  obtain ⟨k1, -⟩ := gt_P z1
  have k2 := z_le k1 c1000.1 c1000.2 z2
  have s1 : ft_P (ag x2) := ag_P ft_0P z3
  have s2 : ft_z (ag x2) ≤ FP.Core.one64 := by have := z_le (m := 1) s1 ft_c1P (by rw [ft_c1z, Nat.one_mul]) z4; rwa [Nat.one_mul] at this
  obtain ⟨k, hk, rfl⟩ := nI_of (x := x3) (Int32.not_lt.mpr z5)
  have hk3 : k < 3 := (nI_ltI hk (by decide)).mp z6
  rw [nI_clamp hk]
  obtain ⟨o1, o2, o3, o4, -⟩ := grain_ok j4 (by omega) hk3 k1 k2 ⟨s1, s2⟩ j6 j7
  exact ⟨o1, b + 10000, n, b_next j1, j2, j3, o2, fun i hi => (j5 i hi).mb (by omega) (Nat.le_refl _), o3, o4, j8, ft_pow (by omega) j9, j10, ft_pow (by omega) j11, j12, j13, j14, j15, j16, j17, j18, j19, j20⟩
theorem J_liquor (h : JI c u dv ib hs ht c0 kd A ts pa) (hc : c ≤ 511) (x1 x2 x3 : Int32) (hz : lqOK (ag x1) (ag x2) (ag x3)) : (okM u.2.2.2.2.2.2 (u.1 0) (ag x2) (ag x1) ∧ okM A (u.1 0) (ag x3) (ag x1)) ∧ FP.dcmp (FP.dadd (u.1 0) (ag x1)) 0 = some .gt ∧ JI (c + 1) (vf_upd u.1 0 (FP.dadd (u.1 0) (ag x1)), u.2.1, u.2.2.1, u.2.2.2.1, u.2.2.2.2.1, u.2.2.2.2.2.1, mixD u.2.2.2.2.2.2 (u.1 0) (ag x2) (ag x1)) dv ib hs ht c0 kd (mixD A (u.1 0) (ag x3) (ag x1)) ts pa := by
  obtain ⟨b, n, j1, j2, j3, j4, j5, j6, j7, j8, j9, j10, j11, j12, j13, j14, j15, j16, j17, j18, j19, j20⟩ := h
  have hb := b_31 j1 (by omega)
  obtain ⟨z1, z2, z3, z4, z5⟩ := hz
  obtain ⟨k1, k0⟩ := gt_P z1
  have k2 := z_le k1 c10000.1 c10000.2 z2
  obtain ⟨d1, d2⟩ := tp_P z3
  have a1 : ft_P (ag x3) := ag_P c3 z4
  have a2 := z_le a1 c8.1 c8.2 z5
  obtain ⟨o1, o2, o3, o4, o5⟩ := liquor_ok j4 (by omega) j8 j9 j10 j11 (by omega) (by omega) k1 k0 k2 d1 d2 a1 a2
  exact ⟨o1, o2, b + 10000, n, b_next j1, j2, j3, o5, fun i hi => (j5 i hi).mb (by omega) (Nat.le_refl _), j6, Nat.le_trans j7 (Nat.mul_le_mul_right _ (by omega)), o3.1, o3.2, o4.1, o4.2, j12, j13, j14, j15, j16, j17, j18, j19, j20⟩
theorem J_enzyme (h : JI c u dv ib hs ht c0 kd A ts pa) (hc : c ≤ 511) (x1 x2 : Int32) (hz : ezOK x1 (ag x2)) : vf_n64 (FP.dadd (u.1 (9 + x1.toNatClampNeg)) (ag x2)) ∧ JI (c + 1) (vf_upd u.1 (9 + x1.toNatClampNeg) (FP.dadd (u.1 (9 + x1.toNatClampNeg)) (ag x2)), u.2) dv ib hs ht c0 kd A ts pa := by
  obtain ⟨b, n, j1, j2, j3, j4, j5, j6, j7, j8, j9, j10, j11, j12, j13, j14, j15, j16, j17, j18, j19, j20⟩ := h
  have hb := b_31 j1 (by omega)
  obtain ⟨z1, z2, z3, z4⟩ := hz
  obtain ⟨k1, -⟩ := gt_P z1
  have k2 := z_le k1 c1000.1 c1000.2 z2
  obtain ⟨k, hk, rfl⟩ := nI_of (x := x1) (Int32.not_lt.mpr z3)
  have hk4 : k < 4 := (nI_ltI hk (by decide)).mp z4
  rw [nI_clamp hk]
  obtain ⟨e1, e2⟩ := j4 (9 + k) (by omega)
  rw [bd_pl (by omega)] at e2
  obtain ⟨o1, o2, -⟩ := add_b e1 e2 k1 k2 (by decide) (by omega)
  exact ⟨o1.n, b + 10000, n, b_next j1, j2, j3, (j4.mb (by omega) (Nat.le_refl _)).put o1 o2, fun i hi => (j5 i hi).mb (by omega) (Nat.le_refl _), j6, Nat.le_trans j7 (Nat.mul_le_mul_right _ (by omega)), j8, ft_pow (by omega) j9, j10, ft_pow (by omega) j11, j12, j13, j14, j15, j16, j17, j18, j19, j20⟩
theorem J_step (h : JI c u dv ib hs ht c0 kd A ts pa) (x1 x2 : Int32) (hz : stOK hs c0 u.2.2.2.2.2.1 x1 (ag x2)) : JI (c + 1) u dv ib (upd hs c0 x1) (vf_upd ht c0 (ag x2)) (c0 + 1) kd A ts pa := by
  obtain ⟨b, n, j1, j2, j3, j4, j5, j6, j7, j8, j9, j10, j11, j12, j13, j14, j15, j16, j17, j18, j19, j20⟩ := JI.next h
  obtain ⟨z1, z2, z3, z4, -⟩ := hz
  obtain ⟨d1, d2⟩ := tp_P z3
  rw [j3] at z1
  obtain ⟨x, hx, rfl⟩ := nI_of (x := x1) (fun h0 => by
    have h1 : (0 : Int32) ≤ nI n := nI_pos' (by omega)
    exact absurd (Int32.lt_of_le_of_lt h1 z1) (Int32.not_lt.mpr (Int32.le_of_lt h0)))
  have hx2 : x ≤ 1000000 := (nI_leI (a := x) (b := 1000000) hx (by decide)).mp z2
  refine ⟨b, n, j1, j2, j3, j4, j5, j6, j7, j8, j9, j10, j11, j12, by omega, fun i hi => ?_, Nat.le_succ_of_le j15, fun i hi => ?_, j17, j18, j19, j20⟩
  · by_cases e : i = c0
    · subst e
      rw [show upd hs i (nI x) i = nI x from if_pos rfl, show vf_upd ht i (ag x2) i = ag x2 from if_pos rfl]
      exact ⟨⟨x, hx2, rfl⟩, d1, d2⟩
    · rw [show upd hs c0 (nI x) i = hs i from if_neg e, show vf_upd ht c0 (ag x2) i = ht i from if_neg e]
      exact j14 i (by omega)
  · rw [show upd hs c0 (nI x) i = hs i from if_neg (by omega)]
    exact j16 i hi
theorem J_take (h : JI c u dv ib hs ht c0 kd A ts pa) (x1 : Int32) (g l : Int32) (hz : tkS (ag x1) g l) : (∀ i, i < 13 → vf_n64 (FP.dmul (u.1 i) (ag x1)) ∧ vf_n64 (FP.dsub (u.1 i) (FP.dmul (u.1 i) (ag x1)))) ∧ (kd < 8 → JI (c + 1) (tkA u.1 (ag x1) 13, u.2) (va_up dv kd (tkD u.1 (ag x1) 13 (dv kd))) ib hs ht c0 (kd + 1) A ts (tkP u.1 (ag x1) kd 13 pa) ∧ upd ib kd 0 = ib) := by
  obtain ⟨b, n, j1, j2, j3, j4, j5, j6, j7, j8, j9, j10, j11, j12, j13, j14, j15, j16, j17, j18, j19, j20⟩ := JI.next h
  obtain ⟨z1, z2, -⟩ := hz
  obtain ⟨k1, -⟩ := gt_P z1
  have k2 : ft_z (ag x1) ≤ FP.Core.one64 := by
    have := (ft_lt k1 ft_c1P).mp z2
    rw [ft_c1z] at this
    omega
  obtain ⟨o1, o2, o3⟩ := take_ok (r := dv kd) j4 ⟨k1, k2⟩
  refine ⟨o1, fun hk8 => ⟨⟨b, n, j1, j2, j3, o2, fun i hi => ?_, j6, j7, j8, j9, j10, j11, by omega, j13, j14, j15, j16, j17, j18, fun i hi m hm => ?_, fun i hi => j20 i (by omega)⟩, funext fun i => ?_⟩⟩
  · by_cases e : i = kd
    · subst e
      rw [show va_up dv i (tkD u.1 (ag x1) 13 (dv i)) i = tkD u.1 (ag x1) 13 (dv i) from if_pos rfl]
      exact o3
    · rw [show va_up dv kd (tkD u.1 (ag x1) 13 (dv kd)) i = dv i from if_neg e]
      exact j5 i (by omega)
  · by_cases e : i = kd
    · subst e
      rw [show va_up dv i (tkD u.1 (ag x1) 13 (dv i)) i = tkD u.1 (ag x1) 13 (dv i) from if_pos rfl]
      unfold tkP tkD
      rw [if_pos (by omega), if_pos hm, show 13 * i + m - 13 * i = m by omega]
    · rw [show va_up dv kd (tkD u.1 (ag x1) 13 (dv kd)) i = dv i from if_neg e]
      unfold tkP
      rw [if_neg (by omega)]
      exact j19 i (by omega) m hm
  · unfold upd
    split
    · rename_i e; rw [e]; exact (j20 kd (Nat.le_refl _)).symm
    · rfl
theorem J_back (h : JI c u dv ib hs ht c0 kd A ts pa) (hc : c ≤ 511) (x1 x2 : Int32) (hz : bkOK ib (nI kd) x1 (ag x2)) :
    (okM u.2.2.2.2.2.2 (u.1 0) (ag x2) (dv x1.toNatClampNeg 0) ∧ ∀ i, i < 13 → vf_n64 (FP.dadd (u.1 i) (dv x1.toNatClampNeg i))) ∧ (pa (13 * x1.toNatClampNeg) = dv x1.toNatClampNeg 0 ∧ ∀ i, i < 13 → pa (13 * x1.toNatClampNeg + i) = dv x1.toNatClampNeg i) ∧ bkA u.1 (fun m => pa (13 * x1.toNatClampNeg + m)) 13 = bkA u.1 (dv x1.toNatClampNeg) 13 ∧
    JI (c + 1) (bkA u.1 (dv x1.toNatClampNeg) 13, u.2.1, u.2.2.1, u.2.2.2.1, u.2.2.2.2.1, u.2.2.2.2.2.1, mixD u.2.2.2.2.2.2 (u.1 0) (ag x2) (dv x1.toNatClampNeg 0)) dv (upd ib x1.toNatClampNeg 1) hs ht c0 kd A ts pa := by
  obtain ⟨b, n, j1, j2, j3, j4, j5, j6, j7, j8, j9, j10, j11, j12, j13, j14, j15, j16, j17, j18, j19, j20⟩ := h
  have hb := b_31 j1 (by omega)
  obtain ⟨z1, z2, z3, z4⟩ := hz
  obtain ⟨d1, d2⟩ := tp_P z4
  obtain ⟨k, hk, rfl⟩ := nI_of (x := x1) (Int32.not_lt.mpr z1)
  have hkd : k < kd := (nI_ltI hk (by omega)).mp z2
  rw [nI_clamp hk] at z3 ⊢
  obtain ⟨o1, o2, o3, o4⟩ := back_ok j4 (j5 k hkd) hb (by omega) j8 j9 (by omega) (by omega) d1 d2
  have hpa := j19 k hkd
  have hcn : cnt (upd ib k 1) 8 = cnt ib 8 + 1 := cnt_up z3 8 (by omega)
  refine ⟨⟨o1, o2⟩, ⟨hpa 0 (by decide), hpa⟩, funext fun m => ?_, 2 * b, n, ?_, j2, j3, o4, fun i hi => (j5 i hi).mb (by omega) (Nat.le_refl _), j6, Nat.le_trans j7 (Nat.mul_le_mul_right _ (by omega)), o3.1, o3.2, j10, ft_pow (by omega) j11, j12, j13, j14, j15, j16, j17, j18, j19, fun i hi => ?_⟩
  · unfold bkA
    split
    · rename_i hm; exact congrArg (FP.dadd (u.1 m)) (hpa m hm)
    · rfl
  · rw [hcn, Nat.pow_succ, Nat.add_mul, ← Nat.mul_assoc]
    omega
  · rw [show upd ib k 1 i = ib i from if_neg (by omega)]
    exact j20 i hi
theorem J_starch (h : JI c u dv ib hs ht c0 kd A ts pa) (hc : c ≤ 511) : vf_n64 (FP.dadd (u.1 1) (u.1 2)) ∧ vf_n64 (FP.dmul 4638707616191610880 (FP.dadd (u.1 1) (u.1 2))) ∧ FP.dcmp (FP.dmul 4638707616191610880 (FP.dadd (u.1 1) (u.1 2))) ts ≠ none := by
  obtain ⟨b, n, j1, j2, j3, j4, j5, j6, -⟩ := h
  exact starch_ok j4 (by have := b_31 j1 (by omega); omega) (by omega) j6
theorem J_kd (h : JI c u dv ib hs ht c0 kd A ts pa) {bs n : Nat} (hn : bs + n ≤ 13) (x : Int32) : FP.dcmp (kdV u.1 bs n x) (kdV u.1 bs n x) = some .eq := by
  obtain ⟨b, n9, j1, j2, j3, j4, -⟩ := h
  unfold kdV
  split
  · rename_i h1
    obtain ⟨k, hk, rfl⟩ := nI_of (x := x) (Int32.not_lt.mpr h1.1)
    rw [nI_clamp hk]
    have := (nI_ltI (a := k) (b := n) hk (by omega)).mp h1.2
    exact FP.Core.dcmp_self (j4 (bs + k) (by omega)).1.fin.ne_nan
  · decide +kernel
theorem J_run (h : JI c u dv ib hs ht c0 kd A ts pa) (hc : c ≤ 511) (ac2 : Nat → UInt64) (x1 g l : Int32) (hz : rnOK g l x1 u.2.2.2.2.2.1) :
    (∀ i, i < x1.toNatClampNeg → okS hs ht c0 A (itS hs ht c0 A i u) ∧ okN hs ht c0 A (itN hs ht c0 A i (u.1, ac2, u.2.2.2.2.2.1, u.2.2.2.2.2.2))) ∧
    itN hs ht c0 A x1.toNatClampNeg (u.1, ac2, u.2.2.2.2.2.1, u.2.2.2.2.2.2) = ((itS hs ht c0 A x1.toNatClampNeg u).1, (itN hs ht c0 A x1.toNatClampNeg (u.1, ac2, u.2.2.2.2.2.1, u.2.2.2.2.2.2)).2.1, (itS hs ht c0 A x1.toNatClampNeg u).2.2.2.2.2.1, (itS hs ht c0 A x1.toNatClampNeg u).2.2.2.2.2.2) ∧
    JI (c + 1) (itS hs ht c0 A x1.toNatClampNeg u) dv ib hs ht c0 kd A ts pa := by
  obtain ⟨b, n, j1, j2, j3, j4, j5, j6, j7, j8, j9, j10, j11, j12, j13, j14, j15, j16, j17, j18, j19, j20⟩ := h
  have hb := b_31 j1 (by omega)
  obtain ⟨-, z1, z2, z3⟩ := hz
  obtain ⟨N, hN, rfl⟩ := nI_of (x := x1) (Int32.not_lt.mpr z1)
  rw [nI_clamp hN]
  have hNn : n + N ≤ 1000000 := by
    rw [j3, show (1000000 : Int32) = nI 1000000 from rfl, pk_sub j2] at z3
    have := (nI_leI hN (by omega)).mp z3
    omega
  have hR : ft_R (2 ^ (8 + c) * FP.Core.one64) := by have := ft_R_one (m := 1) (e := 8 + c) (by decide) (by omega); rwa [Nat.one_mul] at this
  have h200 : 200 * FP.Core.one64 ≤ 2 ^ (8 + c) * FP.Core.one64 := Nat.mul_le_mul_right _ (Nat.le_trans (show 200 ≤ 2 ^ 8 by decide) (Nat.pow_le_pow_right (by decide) (by omega)))
  have h0 : RI hs c0 b (2 ^ (8 + c) * FP.Core.one64) n u (u.1, ac2, u.2.2.2.2.2.1, u.2.2.2.2.2.2) := ⟨rfl, j3, j3, rfl, j4, j8, j9, j15, j16, j17, j18⟩
  have hr := RI_run (ht := ht) (A := A) h0 j14 j10 (by omega) hR h200
  refine ⟨fun i hi => ?_, ?_, ?_⟩
  · have := RI_step (hr i (by omega)) j14 j10 (by omega) (by omega) hR h200
    exact ⟨this.1, this.2.1⟩
  · obtain ⟨r1, r2, r3, r4, -⟩ := hr N hNn
    generalize itN hs ht c0 A N (u.1, ac2, u.2.2.2.2.2.1, u.2.2.2.2.2.2) = v at *
    obtain ⟨v1, v2, v3, v4⟩ := v
    dsimp only at r1 r3 r4 ⊢
    rw [r1, r2, r3, r4]
  · obtain ⟨r1, r2, r3, r4, r5, r6, r7, r8, r9, r10, r11⟩ := hr N hNn
    exact ⟨b, n + N, Nat.le_trans (Nat.le_add_right _ _) (b_next j1), hNn, r2, r5, fun i hi => (j5 i hi).mb (Nat.le_refl _) (by omega), j6, j7, r6, ft_pow (by omega) r7, j10, ft_pow (by omega) j11, j12, j13, j14, r8, r9, r10, r11, j19, j20⟩
end JX
end
