/-! liquor, decoctions, arguments -/
theorem ft_pow {k k' : Nat} (h : k ≤ k') {x : Nat} (hx : x ≤ 2 ^ k * FP.Core.one64) : x ≤ 2 ^ k' * FP.Core.one64 := Nat.le_trans hx (Nat.mul_le_mul_right _ (Nat.pow_le_pow_right (by decide) h))
theorem mix_ok {T W d l : UInt64} {k e : Nat} (hT : ft_P T) (hW : ft_P W) (hd : ft_P d) (hl : ft_P l) (hTn : ft_z T ≤ 2 ^ k * FP.Core.one64) (hdn : ft_z d ≤ 2 ^ k * FP.Core.one64)
    (hs : ft_P (FP.dadd W l)) (hsW : ft_z W ≤ ft_z (FP.dadd W l)) (hsl : ft_z l ≤ ft_z (FP.dadd W l)) (hse : ft_z (FP.dadd W l) ≤ 2 ^ e) (hke : e + (k + 1) ≤ 2045) (hk : k + 1 ≤ 971) :
    okM T W d l ∧ ft_P (mixD T W d l) ∧ ft_z (mixD T W d l) ≤ 2 ^ (k + 1) * FP.Core.one64 := by
  unfold okM mixD
  by_cases hg : FP.dcmp (FP.dadd W l) 0 = some .gt
  · rw [if_pos hg]
    have h0 := (ft_gt hs ft_0P).mp hg
    rw [ft_0z] at h0
    obtain ⟨o1, o2, o3, o4, o5, o6⟩ := ft_mix hT hW hd hl hTn hdn hs hsW hsl h0 hse hke hk
    exact ⟨⟨hs.n, fun _ => ⟨o1, o2, o3, o4⟩⟩, o5, o6⟩
  · rw [if_neg hg]
    exact ⟨⟨hs.n, fun h => absurd h hg⟩, hT, ft_pow (Nat.le_succ k) hTn⟩
theorem liquor_ok {b n k : Nat} {a : Nat → UInt64} {T A li d ac : UInt64} (hG : GB (bd b n) a) (hb : b ≤ 2 ^ 33) (hT : ft_P T) (hTn : ft_z T ≤ 2 ^ k * FP.Core.one64) (hA : ft_P A) (hAn : ft_z A ≤ 2 ^ k * FP.Core.one64) (hk : 8 ≤ k) (hk2 : k ≤ 600)
    (h1 : ft_P li) (h2 : 0 < ft_z li) (h3 : ft_z li ≤ 10000 * FP.Core.one64) (h4 : ft_P d) (h5 : ft_z d ≤ 100 * FP.Core.one64) (h6 : ft_P ac) (h7 : ft_z ac ≤ 8 * FP.Core.one64) :
    (okM T (a 0) d li ∧ okM A (a 0) ac li) ∧ FP.dcmp (FP.dadd (a 0) li) 0 = some .gt ∧ (ft_P (mixD T (a 0) d li) ∧ ft_z (mixD T (a 0) d li) ≤ 2 ^ (k + 1) * FP.Core.one64) ∧ (ft_P (mixD A (a 0) ac li) ∧ ft_z (mixD A (a 0) ac li) ≤ 2 ^ (k + 1) * FP.Core.one64) ∧ GB (bd (b + 10000) n) (vf_upd a 0 (FP.dadd (a 0) li)) := by
  obtain ⟨w1, w2⟩ := hG 0 (by decide)
  rw [bd_pl (Or.inl rfl)] at w2
  obtain ⟨s1, s2, s3, s4⟩ := add_b w1 w2 h1 h3 (Nat.le_refl _) hb
  have hse : ft_z (FP.dadd (a 0) li) ≤ 2 ^ (34 + 1074) := Nat.le_trans s2 (ft_oneS (by omega))
  have c8 : ∀ {x m : Nat}, x ≤ m * FP.Core.one64 → m ≤ 256 → x ≤ 2 ^ k * FP.Core.one64 := fun {x m} hx hm => Nat.le_trans hx (Nat.mul_le_mul_right _ (Nat.le_trans hm (Nat.pow_le_pow_right (n := 2) (by decide) hk)))
  have g1 := mix_ok hT w1 h4 h1 hTn (c8 h5 (by decide)) s1 s3 s4 hse (by omega) (by omega)
  have g2 := mix_ok hA w1 h6 h1 hAn (c8 h7 (by decide)) s1 s3 s4 hse (by omega) (by omega)
  refine ⟨⟨g1.1, g2.1⟩, ?_, g1.2, g2.2, (hG.mb (by omega) (Nat.le_refl _)).put s1 s2⟩
  rw [ft_gt s1 ft_0P, ft_0z]
  omega
theorem bd_Rall {b n : Nat} (hb : b ≤ 2 ^ 32) (hn : n ≤ 2 ^ 20) (i : Nat) : ft_R (bd b n i * FP.Core.one64) := by
  unfold bd
  split
  · have := bd_R (e := 0) hb hn (by decide); rwa [Nat.pow_zero, Nat.mul_one] at this
  · split
    · exact bd_R hb hn (by decide)
    · split
      · exact bd_R hb hn (by decide)
      · exact b_R (by omega)
theorem bd_2 (b n i : Nat) : bd (2 * b) n i = 2 * bd b n i := by
  unfold bd
  have h : (n + 1) * (2 * b) = 2 * ((n + 1) * b) := by rw [Nat.mul_left_comm]
  rw [h]
  split
  · rfl
  · split
    · rw [Nat.mul_assoc]
    · split
      · rw [Nat.mul_assoc]
      · rfl
theorem back_ok {b n k : Nat} {a r : Nat → UInt64} {T d : UInt64} (hG : GB (bd b n) a) (hr : GB (bd b n) r) (hb : b ≤ 2 ^ 31) (hn : n ≤ 2 ^ 20) (hT : ft_P T) (hTn : ft_z T ≤ 2 ^ k * FP.Core.one64) (hk : 8 ≤ k) (hk2 : k ≤ 600) (h4 : ft_P d) (h5 : ft_z d ≤ 100 * FP.Core.one64) :
    okM T (a 0) d (r 0) ∧ (∀ i, i < 13 → vf_n64 (FP.dadd (a i) (r i))) ∧ (ft_P (mixD T (a 0) d (r 0)) ∧ ft_z (mixD T (a 0) d (r 0)) ≤ 2 ^ (k + 1) * FP.Core.one64) ∧ GB (bd (2 * b) n) (bkA a r 13) := by
  have key : ∀ i, i < 13 → ft_P (FP.dadd (a i) (r i)) ∧ ft_z (FP.dadd (a i) (r i)) ≤ bd (2 * b) n i * FP.Core.one64 ∧ ft_z (a i) ≤ ft_z (FP.dadd (a i) (r i)) ∧ ft_z (r i) ≤ ft_z (FP.dadd (a i) (r i)) := fun i hi => by
    obtain ⟨x1, x2⟩ := hG i hi
    obtain ⟨y1, y2⟩ := hr i hi
    refine ft_add x1 y1 (bd_Rall (by omega) hn i) ?_
    rw [bd_2, Nat.mul_assoc]
    omega
  obtain ⟨s1, s2, s3, s4⟩ := key 0 (by decide)
  rw [bd_pl (Or.inl rfl)] at s2
  have hse : ft_z (FP.dadd (a 0) (r 0)) ≤ 2 ^ (34 + 1074) := Nat.le_trans s2 (ft_oneS (by omega))
  have g1 := mix_ok hT (hG 0 (by decide)).1 h4 (hr 0 (by decide)).1 hTn (Nat.le_trans h5 (Nat.mul_le_mul_right _ (Nat.le_trans (by decide) (Nat.pow_le_pow_right (n := 2) (by decide) hk)))) s1 s3 s4 hse (by omega) (by omega)
  refine ⟨g1.1, fun i hi => (key i hi).1.n, g1.2, fun i hi => ?_⟩
  unfold bkA
  rw [if_pos hi]
  exact ⟨(key i hi).1, (key i hi).2.1⟩
theorem take_ok {f : Nat → Nat} {a r : Nat → UInt64} {sh : UInt64} (hG : GB f a) (hs : ft_U sh) : (∀ i, i < 13 → vf_n64 (FP.dmul (a i) sh) ∧ vf_n64 (FP.dsub (a i) (FP.dmul (a i) sh))) ∧ GB f (tkA a sh 13) ∧ GB f (tkD a sh 13 r) := by
  have key : ∀ i, i < 13 → (ft_P (FP.dmul (a i) sh) ∧ ft_z (FP.dmul (a i) sh) ≤ f i * FP.Core.one64) ∧ (ft_P (FP.dsub (a i) (FP.dmul (a i) sh)) ∧ ft_z (FP.dsub (a i) (FP.dmul (a i) sh)) ≤ f i * FP.Core.one64) := fun i hi => by
    obtain ⟨x1, x2⟩ := hG i hi
    obtain ⟨m1, m2⟩ := ft_mul_le x1 hs.1 hs.2
    obtain ⟨s1, s2⟩ := ft_sub_le x1 m1 m2
    exact ⟨⟨m1, Nat.le_trans m2 x2⟩, s1, Nat.le_trans s2 x2⟩
  refine ⟨fun i hi => ⟨(key i hi).1.1.n, (key i hi).2.1.n⟩, fun i hi => ?_, fun i hi => ?_⟩
  · unfold tkA; rw [if_pos hi]; exact (key i hi).2
  · unfold tkD; rw [if_pos hi]; exact (key i hi).1
theorem starch_ok {b n : Nat} {a : Nat → UInt64} {ts : UInt64} (hG : GB (bd b n) a) (hb : b ≤ 2 ^ 32) (hn : n + 1 ≤ 2 ^ 20) (hts : ft_P ts) : vf_n64 (FP.dadd (a 1) (a 2)) ∧ vf_n64 (FP.dmul 4638707616191610880 (FP.dadd (a 1) (a 2))) ∧ FP.dcmp (FP.dmul 4638707616191610880 (FP.dadd (a 1) (a 2))) ts ≠ none := by
  obtain ⟨x1, x2⟩ := hG 1 (by decide)
  obtain ⟨y1, y2⟩ := hG 2 (by decide)
  have e1 : bd b n 1 = b := rfl
  have e2 : bd b n 2 = (n + 1) * b := rfl
  rw [e1] at x2
  rw [e2] at y2
  have h3 : (n + 1 + 1) * b = (n + 1) * b + b := by rw [Nat.add_mul (n + 1), Nat.one_mul]
  obtain ⟨s1, s2, -⟩ := ft_add x1 y1 (n := (n + 1 + 1) * b * FP.Core.one64) (by have := bd_R (b := b) (n := n + 1) (e := 0) hb hn (by decide); rwa [Nat.pow_zero, Nat.mul_one] at this) (by rw [h3, Nat.add_mul]; omega)
  have k1 : ft_P 4638707616191610880 := ft_cP (by decide +kernel)
  have k2 : ft_z 4638707616191610880 = 2 ^ 7 * FP.Core.one64 := by decide +kernel
  obtain ⟨m1, -⟩ := ft_mul k1 s1 (n := (n + 1 + 1) * b * 2 ^ 7 * FP.Core.one64) (bd_R hb hn (by decide)) (by
    rw [k2]
    calc 2 ^ 7 * FP.Core.one64 * ft_z (FP.dadd (a 1) (a 2)) ≤ 2 ^ 7 * FP.Core.one64 * ((n + 1 + 1) * b * FP.Core.one64) := Nat.mul_le_mul_left _ s2
      _ = (n + 1 + 1) * b * 2 ^ 7 * FP.Core.one64 * FP.Core.one64 := by
        rw [Nat.mul_comm (2 ^ 7 * FP.Core.one64)]
        exact ft_ac1 _ _ _ _)
  exact ⟨s1.n, m1.n, ft_some m1 hts⟩
/-! arguments: eighths of whole numbers -/
def ag (x : Int32) : UInt64 := FP.dmul (FP.i2d x) 4593671619917905920
theorem ag_pos {x : Int32} (h : 0 ≤ x.toInt) : ft_P (ag x) := (ft_mul_le (ft_i2d h).1 ft_k125.1 ft_k125.2).1
theorem ag_neg {x : Int32} (h : x.toInt < 0) : ∃ c q, FP.Core.val64 (ag x) = .fin true c q ∧ 0 < FP.Core.zmag FP.Core.b64 (.fin true c q) := by
  have e1 : FP.i2d x = FP.Core.l2d x.toInt64 := FP.Core.i2d_l2d x
  obtain ⟨c, q, e2⟩ := FP.Core.l2d_shape x.toInt64
  have e3 : x.toInt64.toInt = x.toInt := Int32.toInt_toInt64 x
  have hs : decide (x.toInt64.toInt < 0) = true := by rw [e3]; exact decide_eq_true h
  rw [hs, ← e1] at e2
  have hz : FP.Core.zval FP.Core.b64 (FP.Core.val64 (FP.i2d x)) = x.toInt * (FP.Core.one64 : Int) := FP.Core.DInt_zval (FP.Core.i2d_int x)
  rw [e2, ft_zvT] at hz
  have hone : (0 : Int) < (FP.Core.one64 : Int) := by have := ft_one_pos; omega
  have hge : FP.Core.one64 ≤ FP.Core.zmag FP.Core.b64 (.fin true c q) := by
    have h1 : x.toInt * (FP.Core.one64 : Int) ≤ (-1) * (FP.Core.one64 : Int) := Int.mul_le_mul_of_nonneg_right (by omega) (by omega)
    omega
  obtain ⟨cd, qd, ed⟩ := ft_k125.1
  have ez : ft_z 0x3FC0000000000000 = FP.Core.zmag FP.Core.b64 (.fin false cd qd) := by unfold ft_z; rw [ed]
  have hv : FP.Core.val64 (ag x) = _ := FP.Core.val64_dmul (FP.i2d x) 0x3FC0000000000000
  rw [e2, ed] at hv
  obtain ⟨c2, q2, m1, m2⟩ := ft_mulS (ft_fit e2) (ft_fit ed) (ft_RS (ft_fit e2)) (Nat.mul_le_mul_left _ (by rw [← ez]; exact ft_k125.2))
  refine ⟨c2, q2, hv.trans m1, ?_⟩
  have hg := FP.Core.product_units (ft_fit e2) (ft_fit ed)
  have hq := FP.Core.qmin_b64
  have g := FP.Core.zmag_roundRatio_ge (s := true) (A := c * cd) (B := 1) (e := q + qd) (e0 := 2 * FP.Core.b64.qmin) (V := .fin false cd qd) FP.Core.good_b64 (by decide) (ft_fit ed) (by omega) hg.2.1 (by
    rw [hg.2.2, Nat.mul_one, show FP.Core.b64.qmin - 2 * FP.Core.b64.qmin = -FP.Core.b64.qmin by omega, ← ft_one_eq, Nat.mul_comm]
    exact Nat.mul_le_mul_right _ hge)
  rw [hg.1] at m1
  have m1' : FP.Core.roundRatio FP.Core.b64 true (c * cd) 1 (q + qd) = .fin true c2 q2 := m1
  rw [m1', ← ez] at g
  have h8 := ft_k8th
  have := ft_one_pos
  omega
theorem ag_fin (x : Int32) : FP.Core.DFin (ag x) := by
  by_cases h : 0 ≤ x.toInt
  · exact (ag_pos h).fin
  · obtain ⟨c, q, e, -⟩ := ag_neg (x := x) (by omega)
    exact ⟨true, c, q, e⟩
theorem ag_no (x : Int32) : nNo (ag x) := fun y hy => by
  have hy : FP.Core.val64 y ≠ .nan := by
    rcases hy with rfl | rfl | rfl | rfl | rfl | rfl | rfl <;> decide +kernel
  intro h
  rcases (FP.Core.dcmp_none _ _).mp h with h | h
  · exact (ag_fin x).ne_nan h
  · exact hy h
/-- an argument below zero is below every number without sign -/
theorem ag_lt {x : Int32} (h : x.toInt < 0) {y : UInt64} (hy : ft_P y) : FP.dcmp (ag x) y = some .lt := by
  obtain ⟨c, q, e, h0⟩ := ag_neg h
  refine FP.Core.dcmp_lt.mpr ⟨(ag_fin x).ne_nan, hy.fin.ne_nan, ?_⟩
  rw [e, ft_zvT, hy.zv]
  omega
theorem ag_P {x : Int32} {y : UInt64} (hy : ft_P y) (h : FP.dcmp (ag x) y ≠ some .lt) : ft_P (ag x) := by
  by_cases h2 : 0 ≤ x.toInt
  · exact ag_pos h2
  · exact absurd (ag_lt (by omega) hy) h
theorem ag_vf (x : Int32) : vf_n64 (ag x) := ft_fn (ag_fin x)
theorem z_le {a b : UInt64} {m : Nat} (ha : ft_P a) (hb : ft_P b) (hz : ft_z b = m * FP.Core.one64) (h : ¬ FP.dcmp a b = some .gt) : ft_z a ≤ m * FP.Core.one64 := by
  rw [ft_gt ha hb] at h
  omega
theorem c1000 : ft_P 4652007308841189376 ∧ ft_z 4652007308841189376 = 1000 * FP.Core.one64 := ⟨ft_cP (by decide +kernel), by decide +kernel⟩
theorem c10000 : ft_P 4666723172467343360 ∧ ft_z 4666723172467343360 = 10000 * FP.Core.one64 := ⟨ft_cP (by decide +kernel), by decide +kernel⟩
theorem c100 : ft_P 4636737291354636288 ∧ ft_z 4636737291354636288 = 100 * FP.Core.one64 := ⟨ft_cP (by decide +kernel), by decide +kernel⟩
theorem c3 : ft_P 4613937818241073152 := ft_cP (by decide +kernel)
theorem c8 : ft_P 4620693217682128896 ∧ ft_z 4620693217682128896 = 8 * FP.Core.one64 := ⟨ft_cP (by decide +kernel), by decide +kernel⟩
theorem tp_P {x : Int32} (h : tpOK (ag x)) : ft_P (ag x) ∧ ft_z (ag x) ≤ 100 * FP.Core.one64 := by
  have h1 : ft_P (ag x) := ag_P ft_0P (fun h2 => by rcases h.1 with h3 | h3 <;> rw [h2] at h3 <;> cases h3)
  exact ⟨h1, z_le h1 c100.1 c100.2 (fun h2 => by rcases h.2 with h3 | h3 <;> rw [h2] at h3 <;> cases h3)⟩
theorem gt_P {x : Int32} (h : FP.dcmp (ag x) 0 = some .gt) : ft_P (ag x) ∧ 0 < ft_z (ag x) := by
  have h1 : ft_P (ag x) := ag_P ft_0P (fun h2 => by rw [h] at h2; cases h2)
  have := (ft_gt h1 ft_0P).mp h
  rw [ft_0z] at this
  exact ⟨h1, this⟩
/-! decoctions that are back -/
def cnt (ib : Nat → Int32) : Nat → Nat
  | 0 => 0
  | n + 1 => cnt ib n + (if ib n = 0 then 0 else 1)
theorem cnt_le (ib : Nat → Int32) : ∀ n, cnt ib n ≤ n
  | 0 => Nat.le_refl _
  | n + 1 => by
    have := cnt_le ib n
    unfold cnt
    split <;> omega
theorem cnt_same {ib : Nat → Int32} {k : Nat} {x : Int32} : ∀ n, n ≤ k → cnt (upd ib k x) n = cnt ib n
  | 0, _ => rfl
  | n + 1, h => by
    unfold cnt
    rw [cnt_same n (by omega), show upd ib k x n = ib n from if_neg (by omega)]
theorem cnt_up {ib : Nat → Int32} {k : Nat} (h0 : ib k = 0) : ∀ n, k < n → cnt (upd ib k 1) n = cnt ib n + 1
  | 0, h => by omega
  | n + 1, h => by
    unfold cnt
    by_cases e : k = n
    · subst e
      rw [cnt_same k (Nat.le_refl _), show upd ib k 1 k = 1 from if_pos rfl, h0, if_neg (by decide), if_pos rfl]
    · rw [cnt_up h0 n (by omega), show upd ib k 1 n = ib n from if_neg (by omega)]
      omega
