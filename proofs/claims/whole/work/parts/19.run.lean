/-! seconds of the class and of the reference go alike -/
theorem fstN_spec (hs : Nat → Int32) (nw : Int32) (c0 : Nat) : ∀ n k, n + k = c0 → k ≤ fstN hs nw c0 n k ∧ fstN hs nw c0 n k ≤ c0 ∧ (∀ i, k ≤ i → i < fstN hs nw c0 n k → hs i ≤ nw) ∧ (fstN hs nw c0 n k < c0 → ¬ hs (fstN hs nw c0 n k) ≤ nw)
  | 0, k, h => by
    unfold fstN
    exact ⟨Nat.le_refl _, by omega, fun i h1 h2 => by omega, fun h1 => by omega⟩
  | n + 1, k, h => by
    unfold fstN
    split
    · rename_i h1
      obtain ⟨a1, a2, a3, a4⟩ := fstN_spec hs nw c0 n (k + 1) (by omega)
      refine ⟨by omega, a2, fun i h2 h3 => ?_, a4⟩
      by_cases e : i = k
      · rw [e]; exact h1.2
      · exact a3 i (by omega) h3
    · rename_i h1
      exact ⟨Nat.le_refl _, by omega, fun i h2 h3 => by omega, fun h2 h3 => h1 ⟨h2, h3⟩⟩
theorem fst_spec (hs : Nat → Int32) (nw : Int32) {c0 k : Nat} (hk : k ≤ c0) : k ≤ fst hs nw c0 k ∧ fst hs nw c0 k ≤ c0 ∧ (∀ i, k ≤ i → i < fst hs nw c0 k → hs i ≤ nw) ∧ (fst hs nw c0 k < c0 → ¬ hs (fst hs nw c0 k) ≤ nw) := fstN_spec hs nw c0 (c0 - k) k (by omega)
theorem fst_eq {hs : Nat → Int32} {nw : Int32} {c0 k : Nat} (hk : k ≤ c0) (h : ∀ i, i < k → hs i ≤ nw) : fst hs nw c0 k = fst hs nw c0 0 := by
  obtain ⟨a1, a2, a3, a4⟩ := fst_spec hs nw hk
  obtain ⟨b1, b2, b3, b4⟩ := fst_spec hs nw (Nat.zero_le c0)
  rcases Nat.lt_trichotomy (fst hs nw c0 k) (fst hs nw c0 0) with h1 | h1 | h1
  · exact absurd (b3 _ (Nat.zero_le _) h1) (a4 (by omega))
  · exact h1
  · refine absurd ?_ (b4 (by omega))
    by_cases h2 : fst hs nw c0 0 < k
    · exact h _ h2
    · exact a3 _ (by omega) h1
theorem sq8_congr {a R R' C C' : Nat → UInt64} (hR : ∀ r, r < 9 → R r = R' r) (hC : ∀ k, k < 4 → C k = C' k) : sq8 a R C = sq8 a R' C' := by
  have e3 : ∀ b, s3 b R = s3 b R' := fun b => by unfold s3; rw [hR 8 (by decide)]
  have e4 : ∀ b, s4 b C = s4 b C' := fun b => by unfold s4; rw [hC 0 (by decide)]
  have e5 : ∀ b, s5 b C = s5 b C' := fun b => by unfold s5 y5; rw [hC 1 (by decide)]
  have e6 : ∀ b, s6 b C = s6 b C' := fun b => by unfold s6 z6; rw [hC 2 (by decide)]
  have e7 : ∀ b, s7 b C = s7 b C' := fun b => by unfold s7; rw [hC 3 (by decide)]
  have e8 : ∀ b, s8 b R 4 = s8 b R' 4 := fun b => funext fun k => by
    unfold s8
    split
    · rename_i h; rw [hR _ (by omega)]
    · rfl
  unfold sq8 sq7 sq6 sq5 sq4 sq3
  rw [e3, e4, e5, e6, e7, e8]
/-- the steps that were told -/
def HG (hs : Nat → Int32) (ht : Nat → UInt64) (c0 : Nat) : Prop := ∀ i, i < c0 → (∃ h, h ≤ 1000000 ∧ hs i = nI h) ∧ ft_P (ht i) ∧ ft_z (ht i) ≤ 100 * FP.Core.one64
/-- the class and the reference at the second n -/
def RI (hs : Nat → Int32) (c0 b t n : Nat) (u : SS) (v : SN) : Prop :=
  u.1 = v.1 ∧ u.2.2.2.2.2.1 = nI n ∧ v.2.2.1 = nI n ∧ u.2.2.2.2.2.2 = v.2.2.2 ∧ GB (bd b n) u.1 ∧ ft_P u.2.2.2.2.2.2 ∧ ft_z u.2.2.2.2.2.2 ≤ t ∧ u.2.2.1 ≤ c0 ∧ (∀ i, i < u.2.2.1 → hs i ≤ nI n) ∧ ft_P u.2.2.2.2.1 ∧ (∀ k, k < 9 → u.2.2.2.1 k = rwv u.2.2.2.2.1 k (mk u.2.2.2.2.1))
theorem heat_ok {hs : Nat → Int32} {ht : Nat → UInt64} {c0 n t k : Nat} {T : UInt64} (hH : HG hs ht c0) (hn : n ≤ 1000000) (hT : ft_P T) (hTt : ft_z T ≤ t) (hR : ft_R t) (h200 : 200 * FP.Core.one64 ≤ t) (hk : k < c0 → ¬ hs k ≤ nI n) : (k < c0 → okH hs ht k (nI n) T) ∧ ft_P (heatT hs ht c0 k (nI n) T) ∧ ft_z (heatT hs ht c0 k (nI n) T) ≤ t := by
  unfold heatT
  by_cases h : k < c0
  · rw [if_pos h]
    obtain ⟨⟨x, hx1, hx2⟩, hd1, hd2⟩ := hH k h
    have hlt : n < x := by
      have := hk h
      rw [hx2] at this
      exact Nat.lt_of_not_le fun h2 => this (nI_le h2 (by omega))
    have hsub : hs k - nI n = nI (x - n) := by rw [hx2]; exact pk_sub (by omega)
    have h0 : 0 < (hs k - nI n).toInt := by rw [hsub, nI_toInt (by omega)]; omega
    obtain ⟨o1, o2, o3, o4⟩ := ft_heat (k := hs k - nI n) hT hd1 h0 hR hTt (by omega)
    exact ⟨fun _ => ⟨o1, o2, o3.n⟩, o3, o4⟩
  · rw [if_neg h]
    exact ⟨fun h2 => absurd h2 h, hT, hTt⟩
theorem RI_step {hs : Nat → Int32} {ht : Nat → UInt64} {c0 b t n : Nat} {A : UInt64} {u : SS} {v : SN} (h : RI hs c0 b t n u v) (hH : HG hs ht c0) (hA : ft_P A) (hb : b ≤ 2 ^ 32) (hn : n + 1 ≤ 1000000) (hR : ft_R t) (h200 : 200 * FP.Core.one64 ≤ t) :
    okS hs ht c0 A u ∧ okN hs ht c0 A v ∧ RI hs c0 b t (n + 1) (secS hs ht c0 A u) (secN hs ht c0 A v) := by
  obtain ⟨e1, e2, e3, e4, hG, hT, hTt, hk, hki, hra, hrv⟩ := h
  have hKe : scK hs c0 u = fst hs (nI n) c0 0 := by unfold scK; rw [e2]; exact fst_eq hk hki
  obtain ⟨b1, b2, b3, b4⟩ := fst_spec hs (nI n) (Nat.zero_le c0)
  obtain ⟨o1, o2, o3⟩ := heat_ok (k := fst hs (nI n) c0 0) hH (by omega) hT hTt hR h200 b4
  have hT1 : scT hs ht c0 u = heatT hs ht c0 (fst hs (nI n) c0 0) (nI n) u.2.2.2.2.2.2 := by unfold scT; rw [hKe, e2]
  have hT2 : snT hs ht c0 v = scT hs ht c0 u := by unfold snT; rw [hT1, e3, ← e4]
  rw [← hT1] at o2 o3
  have hU : ∀ (rv : Nat → UInt64) r, r < 9 → ft_U (rwA (scT hs ht c0 u) 9 rv r) := fun rv r hr => by rw [rwA_in _ hr]; exact rw_P o2 hr
  have hCc : ∀ k, k < 4 → scC hs ht c0 A u k = actE u.1 (scR hs ht c0 u) A k := fun k hk => if_pos hk
  have hCn : ∀ k, k < 4 → snC hs ht c0 A v k = actE v.1 (snR hs ht c0 v) A k := fun k hk => if_pos hk
  obtain ⟨q1, q2⟩ := sec_ok (C := scC hs ht c0 A u) (R := scR hs ht c0 u) hG hb (by omega) (fun r hr => hU _ r hr) hA hCc
  obtain ⟨p1, p2⟩ := sec_ok (a := v.1) (C := snC hs ht c0 A v) (R := snR hs ht c0 v) (e1 ▸ hG) hb (by omega) (fun r hr => by unfold snR; rw [hT2]; exact hU _ r hr) hA hCn
  have hRR : ∀ r, r < 9 → scR hs ht c0 u r = snR hs ht c0 v r := fun r hr => by unfold scR snR; rw [hT2, rwA_in _ hr, rwA_in _ hr]
  have hCC : ∀ k, k < 4 → scC hs ht c0 A u k = snC hs ht c0 A v k := fun k hk => by
    rw [hCc k hk, hCn k hk, ← e1]
    unfold actE
    rw [hRR k (by omega)]
  have hs8 : sq8 u.1 (scR hs ht c0 u) (scC hs ht c0 A u) = sq8 v.1 (snR hs ht c0 v) (snC hs ht c0 A v) := by rw [← e1]; exact sq8_congr hRR hCC
  refine ⟨⟨hk, ?_, hra, o2, hrv, q1⟩, ⟨?_, by rw [hT2]; exact o2, p1⟩, hs8, ?_, ?_, hT2.symm, q2, o2, o3, ?_, ?_, o2, ?_⟩
  · rw [hKe, e2]; exact o1
  · rw [e3, ← e4]; exact o1
  · show u.2.2.2.2.2.1 + 1 = nI (n + 1)
    rw [e2]; exact nI_1 n
  · show v.2.2.1 + 1 = nI (n + 1)
    rw [e3]; exact nI_1 n
  · show scK hs c0 u ≤ c0
    rw [hKe]; exact b2
  · show ∀ i, i < scK hs c0 u → hs i ≤ nI (n + 1)
    intro i hi
    rw [hKe] at hi
    exact Int32.le_trans (b3 i (Nat.zero_le _) hi) (nI_le (by omega) (by omega))
  · show ∀ k, k < 9 → scR hs ht c0 u k = rwv (scT hs ht c0 u) k (mk (scT hs ht c0 u))
    intro k hk
    exact rwA_in _ hk _
theorem RI_run {hs : Nat → Int32} {ht : Nat → UInt64} {c0 b t n : Nat} {A : UInt64} {u : SS} {v : SN} (h : RI hs c0 b t n u v) (hH : HG hs ht c0) (hA : ft_P A) (hb : b ≤ 2 ^ 32) (hR : ft_R t) (h200 : 200 * FP.Core.one64 ≤ t) :
    ∀ i, n + i ≤ 1000000 → RI hs c0 b t (n + i) (itS hs ht c0 A i u) (itN hs ht c0 A i v)
  | 0, _ => h
  | i + 1, hi => (RI_step (RI_run h hH hA hb hR h200 i (by omega)) hH hA hb (by omega) hR h200).2.2
