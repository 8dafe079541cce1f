/-! what keeps every reckoning a number: amounts without sign, and bounds on them -/
/-- amounts without sign, with bounds -/
def GB (f : Nat → Nat) (a : Nat → UInt64) : Prop := ∀ i, i < 13 → ft_P (a i) ∧ ft_z (a i) ≤ f i * FP.Core.one64
theorem GB.up {f : Nat → Nat} {a : Nat → UInt64} (h : GB f a) {k m : Nat} {x : UInt64} (hx : ft_P x) (hm : ft_z x ≤ m * FP.Core.one64) : GB (fun i => if i = k then m else f i) (vf_upd a k x) := fun i hi => by
  unfold vf_upd
  by_cases e : i = k
  · simp only [e, if_true]; exact ⟨hx, hm⟩
  · simp only [e, if_false]; exact h i hi
theorem GB.keep {f : Nat → Nat} {a : Nat → UInt64} (h : GB f a) {k : Nat} {x : UInt64} (hx : ft_P x) (hm : ft_z x ≤ f k * FP.Core.one64) : GB f (vf_upd a k x) := fun i hi => by
  unfold vf_upd
  by_cases e : i = k
  · simp only [e, if_true]; exact ⟨hx, hm⟩
  · simp only [e, if_false]; exact h i hi
theorem GB.mono {f g : Nat → Nat} {a : Nat → UInt64} (h : GB f a) (hfg : ∀ i, i < 13 → f i ≤ g i) : GB g a := fun i hi => ⟨(h i hi).1, Nat.le_trans (h i hi).2 (Nat.mul_le_mul_right _ (hfg i hi))⟩
def ft_U (x : UInt64) : Prop := ft_P x ∧ ft_z x ≤ FP.Core.one64
theorem ft_cP {x : UInt64} (h : ft_isP x = true) : ft_P x := ft_isP_P h
theorem ft_k75 : ft_U 0x3FE8000000000000 := ⟨ft_cP (by decide +kernel), by decide +kernel⟩
theorem ft_k25 : ft_U 0x3FD0000000000000 := ⟨ft_cP (by decide +kernel), by decide +kernel⟩
theorem ft_k0625 : ft_U 0x3FB0000000000000 := ⟨ft_cP (by decide +kernel), by decide +kernel⟩
theorem ft_k125 : ft_U 0x3FC0000000000000 := ⟨ft_cP (by decide +kernel), by decide +kernel⟩
theorem ft_k8 : ft_P 0x4020000000000000 ∧ ft_z 0x4020000000000000 = 8 * FP.Core.one64 := ⟨ft_cP (by decide +kernel), by decide +kernel⟩
theorem ft_k2 : ft_P 0x4000000000000000 ∧ ft_z 0x4000000000000000 = 2 * FP.Core.one64 := ⟨ft_cP (by decide +kernel), by decide +kernel⟩
theorem ft_k10625 : ft_P 0x3FF1000000000000 ∧ ft_z 0x3FF1000000000000 ≤ 2 * FP.Core.one64 := ⟨ft_cP (by decide +kernel), by decide +kernel⟩
theorem ft_k1125 : ft_P 0x3FF2000000000000 ∧ ft_z 0x3FF2000000000000 ≤ 2 * FP.Core.one64 := ⟨ft_cP (by decide +kernel), by decide +kernel⟩
theorem ft_k16th : 16 * ft_z 0x3FB0000000000000 = FP.Core.one64 := by decide +kernel
theorem ft_k8th : 8 * ft_z 0x3FC0000000000000 = FP.Core.one64 := by decide +kernel
/-- twice a number -/
theorem ft_mul2 {x k : UInt64} {m : Nat} (hx : ft_P x) (hk : ft_P k) (hkz : ft_z k ≤ 2 * FP.Core.one64) (hm : ft_z x ≤ m * FP.Core.one64) (hR : ft_R (2 * m * FP.Core.one64)) : ft_P (FP.dmul x k) ∧ ft_z (FP.dmul x k) ≤ 2 * m * FP.Core.one64 :=
  ft_mul hx hk hR (by
    calc ft_z x * ft_z k ≤ (m * FP.Core.one64) * (2 * FP.Core.one64) := Nat.mul_le_mul hm hkz
      _ = m * 2 * FP.Core.one64 * FP.Core.one64 := ft_ac1 _ _ _ _
      _ = 2 * m * FP.Core.one64 * FP.Core.one64 := by rw [Nat.mul_comm m 2])
theorem ft_Rone : ft_R FP.Core.one64 := by have := ft_c1P.R; rwa [ft_c1z] at this
/-- an enzyme's action -/
theorem act_ok {x W : UInt64} {m : Nat} (hx : ft_P x) (hW : ft_P W) (hR : ft_R m) (h : ft_z x + ft_z W ≤ m) : (FP.dcmp x 0 = some .gt → vf_n64 (FP.dadd x W) ∧ vf_n64 (FP.ddiv x (FP.dadd x W)) ∧ vf_n64 (FP.dmul (FP.ddiv x (FP.dadd x W)) 0x3FB0000000000000)) ∧ ft_U (actX x W) := by
  unfold actX
  by_cases hg : FP.dcmp x 0 = some .gt
  · rw [if_pos hg]
    rw [ft_gt hx ft_0P, ft_0z] at hg
    obtain ⟨s1, -, s3, -⟩ := ft_add hx hW hR h
    obtain ⟨d1, d2⟩ := ft_div hx s1 (by omega) (n := FP.Core.one64) ft_Rone (by rw [Nat.mul_comm]; exact Nat.mul_le_mul_left _ s3)
    obtain ⟨e1, e2⟩ := ft_mul_le d1 ft_k0625.1 ft_k0625.2
    exact ⟨fun _ => ⟨s1.n, d1.n, e1.n⟩, e1, Nat.le_trans e2 d2⟩
  · rw [if_neg hg]
    exact ⟨fun h => absurd h hg, ft_0P, by rw [ft_0z]; exact Nat.zero_le _⟩
theorem actE_ok {f : Nat → Nat} {a R : Nat → UInt64} {A : UInt64} (hG : GB f a) (hR : ∀ r, r < 9 → ft_U (R r)) (hA : ft_P A) (hr : ∀ k, k < 4 → ft_R ((f (9 + k) + f 0) * FP.Core.one64)) : okA a R A ∧ ∀ k, k < 4 → ft_U (actE a R A k) := by
  obtain ⟨f1, f2⟩ := fitA_P hA
  have key : ∀ k, k < 4 → _ := fun k hk => by
    obtain ⟨e1, e2⟩ := hG (9 + k) (by omega)
    obtain ⟨w1, w2⟩ := hG 0 (by decide)
    obtain ⟨m1, m2⟩ := ft_mul_le e1 (hR k (by omega)).1 (hR k (by omega)).2
    obtain ⟨n1, n2⟩ := ft_mul_le m1 f1 f2
    have h := act_ok n1 w1 (hr k hk) (by rw [Nat.add_mul]; omega)
    exact And.intro (And.intro m1.n (And.intro n1.n h.1)) h.2
  exact ⟨fun k hk => (key k hk).1, fun k hk => (key k hk).2⟩
theorem step3 {f : Nat → Nat} {a R : Nat → UInt64} {m : Nat} (hG : GB f a) (hR : ft_U (R 8)) (hm : f 2 + f 1 ≤ m) (hr : ft_R (m * FP.Core.one64)) : ok3 a R ∧ GB (fun i => if i = 2 then m else f i) (s3 a R) := by
  obtain ⟨u1, u2⟩ := hG 1 (by decide)
  obtain ⟨g1, g2⟩ := hG 2 (by decide)
  obtain ⟨d1, d2⟩ := ft_mul_le u1 hR.1 hR.2
  obtain ⟨x1, x2⟩ := ft_sub_le u1 d1 d2
  obtain ⟨y1, y2, -⟩ := ft_add g1 d1 hr (by have := Nat.mul_le_mul_right FP.Core.one64 hm; rw [Nat.add_mul] at this; omega)
  exact ⟨⟨d1.n, x1.n, y1.n⟩, (hG.keep x1 (Nat.le_trans x2 u2)).up y1 y2⟩
theorem step4 {f : Nat → Nat} {a C : Nat → UInt64} {m : Nat} (hG : GB f a) (hC : ft_U (C 0)) (h6 : f 6 + f 2 ≤ m) (h5 : f 5 + f 2 ≤ m) (hr : ft_R (m * FP.Core.one64)) : ok4 a C ∧ GB (fun i => if i = 5 then m else if i = 6 then m else f i) (s4 a C) := by
  obtain ⟨g1, g2⟩ := hG 2 (by decide)
  obtain ⟨p1, p2⟩ := hG 6 (by decide)
  obtain ⟨q1, q2⟩ := hG 5 (by decide)
  obtain ⟨x1, x2⟩ := ft_mul_le g1 hC.1 hC.2
  obtain ⟨y1, y2⟩ := ft_sub_le g1 x1 x2
  obtain ⟨a1, a2⟩ := ft_mul_le x1 ft_k75.1 ft_k75.2
  obtain ⟨b1, b2⟩ := ft_mul_le x1 ft_k25.1 ft_k25.2
  obtain ⟨c1, c2, -⟩ := ft_add p1 a1 hr (by have := Nat.mul_le_mul_right FP.Core.one64 h6; rw [Nat.add_mul] at this; omega)
  obtain ⟨d1, d2, -⟩ := ft_add q1 b1 hr (by have := Nat.mul_le_mul_right FP.Core.one64 h5; rw [Nat.add_mul] at this; omega)
  exact ⟨⟨x1.n, y1.n, a1.n, c1.n, b1.n, d1.n⟩, ((hG.keep y1 (Nat.le_trans y2 g2)).up c1 c2).up d1 d2⟩
theorem les_ok {x w : UInt64} (hx : ft_P x) (hw : ft_P w) : ft_P (lesD x w) ∧ ft_z (lesD x w) ≤ ft_z x ∧ ft_z (lesD x w) ≤ ft_z w := by
  unfold lesD
  split
  · rename_i h
    have := (ft_lt hw hx).mp h
    exact ⟨hw, by omega, Nat.le_refl _⟩
  · rename_i h
    have : ¬ ft_z w < ft_z x := fun h2 => h ((ft_lt hw hx).mpr h2)
    exact ⟨hx, Nat.le_refl _, by omega⟩
theorem ft_oneS {m e : Nat} (hm : m ≤ 2 ^ e) : m * FP.Core.one64 ≤ 2 ^ (e + 1074) := by
  rw [ft_one_eq, ft_qm, Nat.pow_add]
  exact Nat.mul_le_mul_right _ hm
/-- a part of the water goes -/
theorem wat_ok {y w k : UInt64} {n : Nat} (hy : ft_P y) (hw : ft_P w) (hk : ft_P k) (hkz : n * ft_z k = FP.Core.one64) (h : ft_z y ≤ n * ft_z w) : ft_P (FP.dmul y k) ∧ ft_P (FP.dsub w (FP.dmul y k)) ∧ ft_z (FP.dsub w (FP.dmul y k)) ≤ ft_z w := by
  obtain ⟨m1, m2⟩ := ft_mul hy hk hw.R (by
    calc ft_z y * ft_z k ≤ (n * ft_z w) * ft_z k := Nat.mul_le_mul_right _ h
      _ = ft_z w * (n * ft_z k) := by rw [Nat.mul_comm n, Nat.mul_assoc]
      _ = ft_z w * FP.Core.one64 := by rw [hkz])
  obtain ⟨s1, s2⟩ := ft_sub_le hw m1 m2
  exact ⟨m1, s1, s2⟩
theorem step5 {f : Nat → Nat} {a C : Nat → UInt64} {m e : Nat} (hG : GB f a) (hC : ft_U (C 1)) (h0 : f 0 ≤ 2 ^ e) (he : e ≤ 900) (hr6 : ft_R (2 * f 6 * FP.Core.one64)) (h4 : f 4 + 2 * f 6 ≤ m) (hr : ft_R (m * FP.Core.one64)) : ok5 a C ∧ GB (fun i => if i = 4 then m else f i) (s5 a C) := by
  obtain ⟨w1, w2⟩ := hG 0 (by decide)
  obtain ⟨p1, p2⟩ := hG 6 (by decide)
  obtain ⟨q1, q2⟩ := hG 4 (by decide)
  obtain ⟨x1, x2⟩ := ft_mul_le p1 hC.1 hC.2
  have hw8 : ft_R (ft_z (a 0) * 2 ^ 3) := ft_R_shift (e := e + 1074) w1.R (Nat.le_trans w2 (ft_oneS h0)) (by omega)
  obtain ⟨v1, v2⟩ := ft_mul w1 ft_k8.1 hw8 (by rw [ft_k8.2, ← Nat.mul_assoc]; exact Nat.le_refl _)
  obtain ⟨y1, y2, y3⟩ := les_ok x1 v1
  have hy : lesD (FP.dmul (a 6) (C 1)) (FP.dmul (a 0) 0x4020000000000000) = y5 a C := rfl
  rw [hy] at y1 y2 y3
  obtain ⟨s1, s2⟩ := ft_sub_le p1 y1 (Nat.le_trans y2 x2)
  obtain ⟨t1, t2⟩ := ft_mul2 y1 ft_k10625.1 ft_k10625.2 (Nat.le_trans y2 (Nat.le_trans x2 p2)) hr6
  obtain ⟨c1, c2, -⟩ := ft_add q1 t1 hr (by have := Nat.mul_le_mul_right FP.Core.one64 h4; rw [Nat.add_mul] at this; omega)
  obtain ⟨k1, k2, k3⟩ := wat_ok (n := 16) y1 w1 ft_k0625.1 ft_k16th (by omega)
  exact ⟨⟨x1.n, v1.n, s1.n, t1.n, c1.n, k1.n, k2.n⟩, fun i hi => by
    have := ((hG.keep (k := 6) s1 (Nat.le_trans s2 p2)).up (k := 4) c1 c2).keep (k := 0) k2 (Nat.le_trans k3 w2)
    exact this i hi⟩
theorem step6 {f : Nat → Nat} {a C : Nat → UInt64} {m e : Nat} (hG : GB f a) (hC : ft_U (C 2)) (h0 : f 0 ≤ 2 ^ e) (he : e ≤ 900) (hr6 : ft_R (2 * f 6 * FP.Core.one64)) (h4 : f 3 + 2 * f 6 ≤ m) (hr : ft_R (m * FP.Core.one64)) : ok6 a C ∧ GB (fun i => if i = 3 then m else f i) (s6 a C) := by
  obtain ⟨w1, w2⟩ := hG 0 (by decide)
  obtain ⟨p1, p2⟩ := hG 6 (by decide)
  obtain ⟨q1, q2⟩ := hG 3 (by decide)
  obtain ⟨x1, x2⟩ := ft_mul_le p1 hC.1 hC.2
  have hw8 : ft_R (ft_z (a 0) * 2 ^ 1) := ft_R_shift (e := e + 1074) w1.R (Nat.le_trans w2 (ft_oneS h0)) (by omega)
  obtain ⟨v1, v2⟩ := ft_mul w1 ft_k2.1 hw8 (by rw [ft_k2.2, ← Nat.mul_assoc]; exact Nat.le_refl _)
  obtain ⟨y1, y2, y3⟩ := les_ok x1 v1
  have hy : lesD (FP.dmul (a 6) (C 2)) (FP.dmul (a 0) 0x4000000000000000) = z6 a C := rfl
  rw [hy] at y1 y2 y3
  obtain ⟨s1, s2⟩ := ft_sub_le p1 y1 (Nat.le_trans y2 x2)
  obtain ⟨t1, t2⟩ := ft_mul2 y1 ft_k1125.1 ft_k1125.2 (Nat.le_trans y2 (Nat.le_trans x2 p2)) hr6
  obtain ⟨c1, c2, -⟩ := ft_add q1 t1 hr (by have := Nat.mul_le_mul_right FP.Core.one64 h4; rw [Nat.add_mul] at this; omega)
  obtain ⟨k1, k2, k3⟩ := wat_ok (n := 8) y1 w1 ft_k125.1 ft_k8th (by omega)
  exact ⟨⟨x1.n, v1.n, s1.n, t1.n, c1.n, k1.n, k2.n⟩, fun i hi => by
    have := ((hG.keep (k := 6) s1 (Nat.le_trans s2 p2)).up (k := 3) c1 c2).keep (k := 0) k2 (Nat.le_trans k3 w2)
    exact this i hi⟩
theorem step7 {f : Nat → Nat} {a C : Nat → UInt64} {m : Nat} (hG : GB f a) (hC : ft_U (C 3)) (hm : f 7 + f 8 ≤ m) (hr : ft_R (m * FP.Core.one64)) : ok7 a C ∧ GB (fun i => if i = 7 then m else f i) (s7 a C) := by
  obtain ⟨u1, u2⟩ := hG 8 (by decide)
  obtain ⟨g1, g2⟩ := hG 7 (by decide)
  obtain ⟨d1, d2⟩ := ft_mul_le u1 hC.1 hC.2
  obtain ⟨x1, x2⟩ := ft_sub_le u1 d1 d2
  obtain ⟨y1, y2, -⟩ := ft_add g1 d1 hr (by have := Nat.mul_le_mul_right FP.Core.one64 hm; rw [Nat.add_mul] at this; omega)
  exact ⟨⟨d1.n, x1.n, y1.n⟩, (hG.keep x1 (Nat.le_trans x2 u2)).up y1 y2⟩
theorem step8 {f : Nat → Nat} {a R : Nat → UInt64} (hG : GB f a) (hR : ∀ r, r < 9 → ft_U (R r)) : ok8 a R ∧ GB f (s8 a R 4) := by
  have key : ∀ k, k < 4 → ft_P (FP.dmul (a (9 + k)) (R (4 + k))) ∧ ft_P (FP.dsub (a (9 + k)) (FP.dmul (a (9 + k)) (R (4 + k)))) ∧ ft_z (FP.dsub (a (9 + k)) (FP.dmul (a (9 + k)) (R (4 + k)))) ≤ f (9 + k) * FP.Core.one64 := fun k hk => by
    obtain ⟨e1, e2⟩ := hG (9 + k) (by omega)
    obtain ⟨m1, m2⟩ := ft_mul_le e1 (hR (4 + k) (by omega)).1 (hR (4 + k) (by omega)).2
    obtain ⟨s1, s2⟩ := ft_sub_le e1 m1 m2
    exact ⟨m1, s1, Nat.le_trans s2 e2⟩
  refine ⟨fun k hk => ⟨(key k hk).1.n, (key k hk).2.1.n⟩, fun i hi => ?_⟩
  unfold s8
  by_cases h : 9 ≤ i ∧ i < 9 + 4
  · rw [if_pos h]
    have := (key (i - 9) (by omega)).2
    rwa [show 9 + (i - 9) = i by omega] at this
  · rw [if_neg h]
    exact hG i hi
/-- the bounds: b for water, raw starch, protein, enzymes; n seconds -/
def bd (b n : Nat) (i : Nat) : Nat := if i = 2 then (n + 1) * b else if i = 5 ∨ i = 6 then (n + 1) * b * 2 ^ 20 else if i = 3 ∨ i = 4 ∨ i = 7 then (n + 1) * b * 2 ^ 42 else b
theorem bd_R {b n e : Nat} (hb : b ≤ 2 ^ 32) (hn : n ≤ 2 ^ 20) (he : e ≤ 100) : ft_R ((n + 1) * b * 2 ^ e * FP.Core.one64) := by
  refine ft_R_one ?_ (by omega)
  calc (n + 1) * b ≤ (2 ^ 20 + 1) * 2 ^ 32 := Nat.mul_le_mul (by omega) hb
    _ < 2 ^ 53 := by decide
/-- a second keeps the bounds -/
theorem sec_ok {b n : Nat} {a R C : Nat → UInt64} {A : UInt64} (hG : GB (bd b n) a) (hb : b ≤ 2 ^ 32) (hn : n + 3 ≤ 2 ^ 20) (hR : ∀ r, r < 9 → ft_U (R r)) (hA : ft_P A) (hC : ∀ k, k < 4 → C k = actE a R A k) : okQ a R C A ∧ GB (bd b (n + 1)) (sq8 a R C) := by
  have hR0 : ∀ m e, m ≤ n + 2 → e ≤ 100 → ft_R ((m + 1) * b * 2 ^ e * FP.Core.one64) := fun m e hm he => bd_R hb (by omega) he
  have e0 : ∀ x : Nat, x * 2 ^ 0 = x := fun x => by rw [Nat.pow_zero, Nat.mul_one]
  have hb2 : (n + 2) * b = n * b + 2 * b := by rw [Nat.add_mul]
  have hb1 : (n + 1) * b = n * b + b := by rw [Nat.add_mul, Nat.one_mul]
  obtain ⟨oA, hU⟩ := actE_ok hG hR hA (fun k hk => by
    have h1 : bd b n (9 + k) = b := by unfold bd; rw [if_neg (by omega), if_neg (by omega), if_neg (by omega)]
    have h2 : bd b n 0 = b := rfl
    rw [h1, h2]
    have := hR0 1 0 (by omega) (by decide)
    rw [e0] at this
    rwa [show b + b = (1 + 1) * b by omega])
  have hU : ∀ k, k < 4 → ft_U (C k) := fun k hk => by rw [hC k hk]; exact hU k hk
  have b0 : bd b n 0 = b := rfl
  have b1 : bd b n 1 = b := rfl
  have b2 : bd b n 2 = (n + 1) * b := rfl
  have b3 : bd b n 3 = (n + 1) * b * 2 ^ 42 := rfl
  have b4 : bd b n 4 = (n + 1) * b * 2 ^ 42 := rfl
  have b5 : bd b n 5 = (n + 1) * b * 2 ^ 20 := rfl
  have b6 : bd b n 6 = (n + 1) * b * 2 ^ 20 := rfl
  have b7 : bd b n 7 = (n + 1) * b * 2 ^ 42 := rfl
  have b8 : bd b n 8 = b := rfl
  have hnb : n * b + 2 * b ≤ b * 2 ^ 20 := by
    rw [← hb2, Nat.mul_comm]
    exact Nat.mul_le_mul_left _ (by omega)
  obtain ⟨o3, g3⟩ := step3 (m := (n + 2) * b) hG (hR 8 (by decide)) (by rw [b1, b2]; omega) (by have := hR0 (n + 1) 0 (by omega) (by decide); rwa [e0] at this)
  obtain ⟨o4, g4⟩ := step4 (m := (n + 2) * b * 2 ^ 20) g3 (hU 0 (by decide)) (by simp only [if_true, show (6 : Nat) = 2 ↔ False by decide, if_false]; rw [b6]; omega) (by simp only [if_true, show (5 : Nat) = 2 ↔ False by decide, if_false]; rw [b5]; omega) (hR0 (n + 1) 20 (by omega) (by decide))
  have hbig : 2 * ((n + 2) * b * 2 ^ 20) ≤ b * 2 ^ 42 := by omega
  have hr6 : ft_R (2 * ((n + 2) * b * 2 ^ 20) * FP.Core.one64) := by
    have := hR0 (n + 1) 21 (by omega) (by decide)
    have h9 : (n + 1 + 1) * b * 2 ^ 21 = 2 * ((n + 2) * b * 2 ^ 20) := by
      show (n + 2) * b * 2 ^ 21 = _
      generalize (n + 2) * b = w
      omega
    rwa [h9] at this
  obtain ⟨o5, g5⟩ := step5 (m := (n + 2) * b * 2 ^ 42) (e := 32) g4 (hU 1 (by decide)) (by simpa [b0] using hb) (by decide) (by simpa using hr6) (by simp; rw [b4]; omega) (hR0 (n + 1) 42 (by omega) (by decide))
  obtain ⟨o6, g6⟩ := step6 (m := (n + 2) * b * 2 ^ 42) (e := 32) g5 (hU 2 (by decide)) (by simpa [b0] using hb) (by decide) (by simpa using hr6) (by simp; rw [b3]; omega) (hR0 (n + 1) 42 (by omega) (by decide))
  obtain ⟨o7, g7⟩ := step7 (m := (n + 2) * b * 2 ^ 42) g6 (hU 3 (by decide)) (by simp; rw [b7, b8]; omega) (hR0 (n + 1) 42 (by omega) (by decide))
  obtain ⟨o8, g8⟩ := step8 g7 hR
  refine ⟨⟨oA, o3, o4, o5, o6, o7, o8⟩, g8.mono fun i hi => ?_⟩
  unfold bd
  rcases (show i = 0 ∨ i = 1 ∨ i = 2 ∨ i = 3 ∨ i = 4 ∨ i = 5 ∨ i = 6 ∨ i = 7 ∨ i = 8 ∨ i = 9 ∨ i = 10 ∨ i = 11 ∨ i = 12 by omega) with rfl | rfl | rfl | rfl | rfl | rfl | rfl | rfl | rfl | rfl | rfl | rfl | rfl <;> simp
