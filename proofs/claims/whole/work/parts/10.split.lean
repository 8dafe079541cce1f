/-- the reckonings of a second that must give numbers -/
def ok3 (a rv : Nat → UInt64) : Prop := vf_n64 (FP.dmul (a 1) (rv 8)) ∧ vf_n64 (FP.dsub (a 1) (FP.dmul (a 1) (rv 8))) ∧ vf_n64 (FP.dadd (a 2) (FP.dmul (a 1) (rv 8)))
def ok4 (a ac : Nat → UInt64) : Prop := vf_n64 (FP.dmul (a 2) (ac 0)) ∧ vf_n64 (FP.dsub (a 2) (FP.dmul (a 2) (ac 0))) ∧ vf_n64 (FP.dmul (FP.dmul (a 2) (ac 0)) 0x3FE8000000000000) ∧ vf_n64 (FP.dadd (a 6) (FP.dmul (FP.dmul (a 2) (ac 0)) 0x3FE8000000000000)) ∧ vf_n64 (FP.dmul (FP.dmul (a 2) (ac 0)) 0x3FD0000000000000) ∧ vf_n64 (FP.dadd (a 5) (FP.dmul (FP.dmul (a 2) (ac 0)) 0x3FD0000000000000))
def ok5 (a ac : Nat → UInt64) : Prop := vf_n64 (FP.dmul (a 6) (ac 1)) ∧ vf_n64 (FP.dmul (a 0) 0x4020000000000000) ∧ vf_n64 (FP.dsub (a 6) (y5 a ac)) ∧ vf_n64 (FP.dmul (y5 a ac) 0x3FF1000000000000) ∧ vf_n64 (FP.dadd (a 4) (FP.dmul (y5 a ac) 0x3FF1000000000000)) ∧ vf_n64 (FP.dmul (y5 a ac) 0x3FB0000000000000) ∧ vf_n64 (FP.dsub (a 0) (FP.dmul (y5 a ac) 0x3FB0000000000000))
def ok6 (a ac : Nat → UInt64) : Prop := vf_n64 (FP.dmul (a 6) (ac 2)) ∧ vf_n64 (FP.dmul (a 0) 0x4000000000000000) ∧ vf_n64 (FP.dsub (a 6) (z6 a ac)) ∧ vf_n64 (FP.dmul (z6 a ac) 0x3FF2000000000000) ∧ vf_n64 (FP.dadd (a 3) (FP.dmul (z6 a ac) 0x3FF2000000000000)) ∧ vf_n64 (FP.dmul (z6 a ac) 0x3FC0000000000000) ∧ vf_n64 (FP.dsub (a 0) (FP.dmul (z6 a ac) 0x3FC0000000000000))
def ok7 (a ac : Nat → UInt64) : Prop := vf_n64 (FP.dmul (a 8) (ac 3)) ∧ vf_n64 (FP.dsub (a 8) (FP.dmul (a 8) (ac 3))) ∧ vf_n64 (FP.dadd (a 7) (FP.dmul (a 8) (ac 3)))
def ok8 (a rv : Nat → UInt64) : Prop := ∀ k, k < 4 → vf_n64 (FP.dmul (a (9 + k)) (rv (4 + k))) ∧ vf_n64 (FP.dsub (a (9 + k)) (FP.dmul (a (9 + k)) (rv (4 + k))))
def okA (a rv : Nat → UInt64) (A : UInt64) : Prop := ∀ k, k < 4 → vf_n64 (FP.dmul (a (9 + k)) (rv k)) ∧ vf_n64 (FP.dmul (FP.dmul (a (9 + k)) (rv k)) (fitA A)) ∧ (FP.dcmp (FP.dmul (FP.dmul (a (9 + k)) (rv k)) (fitA A)) 0 = some .gt → vf_n64 (FP.dadd (FP.dmul (FP.dmul (a (9 + k)) (rv k)) (fitA A)) (a 0)) ∧ vf_n64 (FP.ddiv (FP.dmul (FP.dmul (a (9 + k)) (rv k)) (fitA A)) (FP.dadd (FP.dmul (FP.dmul (a (9 + k)) (rv k)) (fitA A)) (a 0))) ∧ vf_n64 (FP.dmul (FP.ddiv (FP.dmul (FP.dmul (a (9 + k)) (rv k)) (fitA A)) (FP.dadd (FP.dmul (FP.dmul (a (9 + k)) (rv k)) (fitA A)) (a 0))) 0x3FB0000000000000))
/-- a temperature that may be told; the mean weighed by water -/
def tpOK (d : UInt64) : Prop := (FP.dcmp d 0 = some .gt ∨ FP.dcmp d 0 = some .eq) ∧ (FP.dcmp d 4636737291354636288 = some .lt ∨ FP.dcmp d 4636737291354636288 = some .eq)
def mixD (v w ov ow : UInt64) : UInt64 := if FP.dcmp (FP.dadd w ow) 0 = some .gt then FP.ddiv (FP.dadd (FP.dmul v w) (FP.dmul ov ow)) (FP.dadd w ow) else v
def okM (v w ov ow : UInt64) : Prop := vf_n64 (FP.dadd w ow) ∧ (FP.dcmp (FP.dadd w ow) 0 = some .gt → vf_n64 (FP.dmul v w) ∧ vf_n64 (FP.dmul ov ow) ∧ vf_n64 (FP.dadd (FP.dmul v w) (FP.dmul ov ow)) ∧ vf_n64 (FP.ddiv (FP.dadd (FP.dmul v w) (FP.dmul ov ow)) (FP.dadd w ow)))
set_option maxHeartbeats 4000000 in
set_option maxRecDepth 100000 in
/-- the lesser -/
theorem cM_lesser (l : Launch) (dC : Nat → ClassId) (dI : Nat → Nat → Nat) (tt : Nat → Nat) (sz : Nat) (x z : UInt64) : Ct l dC dI tt yM_lesser bM_lesser 4 (some .double) ({ frames := 0, cells := 0, slots := 0, locals := 0 }) [] [.double x, .double z] [] sz (fun A => ctQd dC dI [] (lesD x z) [] A) := by
  refine ct_of (by decide) (Nat.le_of_ble_eq_true rfl) ?_
  intro p e s m below meth c A ls hx hb hr hts hown hml hlocks hnm hA hS hP hK hD hT hl
  have hl : lv_has ls 4 [(0, .double x), (2, .double z)] := hl
  refine lv_dload_n hx hb dM_lesser_0 rfl (lv_at hl 1 rfl) ?_
  refine lv_dload_n hx hb dM_lesser_1 rfl (lv_at hl 0 rfl) ?_
  refine lv_dcmp hx hb dM_lesser_2 ?_
  refine lv_if_ge (tgt := 10) hx hb dM_lesser_3 (by decide) (fun c_1 => ?_) (fun c_1 => ?_)
  · refine lv_dload_n hx hb dM_lesser_10 rfl (lv_at hl 0 rfl) ?_
    exact ct_dret hx hb hr hlocks hP hK hD hS (by unfold lesD; rw [if_neg ((cv_g_ge _).mp c_1)]) dM_lesser_11
  · refine lv_dload_n hx hb dM_lesser_6 rfl (lv_at hl 1 rfl) ?_
    refine lv_goto (tgt := 11) hx hb dM_lesser_7 (by decide) ?_
    exact ct_dret hx hb hr hlocks hP hK hD hS (by unfold lesD; rw [if_pos (Classical.not_not.mp fun h => c_1 ((cv_g_ge _).mpr h))]) dM_lesser_11

set_option maxHeartbeats 4000000 in
set_option maxRecDepth 100000 in
/-- 0 to 100 -/
theorem cM_isTemperature (l : Launch) (dC : Nat → ClassId) (dI : Nat → Nat → Nat) (tt : Nat → Nat) (sz : Nat) (d : UInt64) : Ct l dC dI tt yM_isTemperature bM_isTemperature 2 (some .boolean) ({ frames := 0, cells := 0, slots := 0, locals := 0 }) [] [.double d] [] sz (fun A => ctQc dC dI [] (tpOK d) 1 [] 0 [] A) := by
  refine ct_of (by decide) (Nat.le_of_ble_eq_true rfl) ?_
  intro p e s m below meth c A ls hx hb hr hts hown hml hlocks hnm hA hS hP hK hD hT hl
  have hl : lv_has ls 2 [(0, .double d)] := hl
  refine lv_dload_n hx hb dM_isTemperature_0 rfl (lv_at hl 0 rfl) ?_
  refine lv_dconst0 hx hb dM_isTemperature_1 ?_
  refine ct_topd (y := 0) rfl ?_
  refine lv_dcmp hx hb dM_isTemperature_2 ?_
  refine lv_if_lt (tgt := 18) hx hb dM_isTemperature_3 (by decide) (fun c_1 => ?_) (fun c_1 => ?_)
  · refine lv_iconst (v := 0) hx hb dM_isTemperature_18 (by decide) ?_
    exact ct_ret0 hx hb hr rfl hlocks hP hK hD hS (fun h => by have := (cv_l_lt _).mp c_1; rcases h.1 with h2 | h2 <;> rw [h2] at this <;> simp at this) rfl dM_isTemperature_19
  · have h1 : FP.dcmp d 0 = some .gt ∨ FP.dcmp d 0 = some .eq := (cv_l_ge _).mp (Int32.not_lt.mp c_1)
    refine lv_dload_n hx hb dM_isTemperature_6 rfl (lv_at hl 0 rfl) ?_
    refine lv_ldc2d hx hb hown (hts _ tw_d_M_109) dM_isTemperature_7 ?_
    refine lv_dcmp hx hb dM_isTemperature_10 ?_
    refine lv_if_gt (tgt := 18) hx hb dM_isTemperature_11 (by decide) (fun c_2 => ?_) (fun c_2 => ?_)
    · refine lv_iconst (v := 0) hx hb dM_isTemperature_18 (by decide) ?_
      exact ct_ret0 hx hb hr rfl hlocks hP hK hD hS (fun h => by have := (cv_g_gt _).mp c_2; rcases h.2 with h2 | h2 <;> rw [h2] at this <;> simp at this) rfl dM_isTemperature_19
    · refine lv_iconst (v := 1) hx hb dM_isTemperature_14 (by decide) ?_
      refine lv_goto (tgt := 19) hx hb dM_isTemperature_15 (by decide) ?_
      exact ct_ret1 hx hb hr rfl hlocks hP hK hD hS ⟨h1, (cv_g_le _).mp (Int32.not_lt.mp c_2)⟩ rfl dM_isTemperature_19

set_option maxHeartbeats 4000000 in
set_option maxRecDepth 100000 in
/-- the mean weighed by water -/
theorem cM_mixed (l : Launch) (dC : Nat → ClassId) (dI : Nat → Nat → Nat) (tt : Nat → Nat) (sz : Nat) (v1 w1 v2 o1 : UInt64) (hok : okM v1 w1 v2 o1) : Ct l dC dI tt yM_mixed bM_mixed 10 (some .double) ({ frames := 0, cells := 0, slots := 0, locals := 0 }) [] [.double v1, .double w1, .double v2, .double o1] [] sz (fun A => ctQd dC dI [] (mixD v1 w1 v2 o1) [] A) := by
  refine ct_of (by decide) (Nat.le_of_ble_eq_true rfl) ?_
  intro p e s m below meth c A ls hx hb hr hts hown hml hlocks hnm hA hS hP hK hD hT hl
  have hl : lv_has ls 10 [(0, .double v1), (2, .double w1), (4, .double v2), (6, .double o1)] := hl
  refine lv_dload_n hx hb dM_mixed_0 rfl (lv_at hl 1 rfl) ?_
  refine lv_dload hx hb dM_mixed_1 (lv_at hl 3 rfl) ?_
  refine lv_dadd hx hb dM_mixed_3 (hok.1) ?_
  refine lv_dstore (lv' := [(8, .double (FP.dadd w1 o1)), (0, .double v1), (2, .double w1), (4, .double v2), (6, .double o1)]) hx hb dM_mixed_4 hl (by decide) rfl (fun ls hl => ?_)
  refine lv_dload hx hb dM_mixed_6 (lv_at hl 0 rfl) ?_
  refine lv_dconst0 hx hb dM_mixed_8 ?_
  refine ct_topd (y := 0) rfl ?_
  refine lv_dcmp hx hb dM_mixed_9 ?_
  refine lv_if_le (tgt := 28) hx hb dM_mixed_10 (by decide) (fun c_1 => ?_) (fun c_1 => ?_)
  · refine lv_dload_n hx hb dM_mixed_28 rfl (lv_at hl 1 rfl) ?_
    exact ct_dret hx hb hr hlocks hP hK hD hS (by unfold mixD; rw [if_neg ((cv_l_le _).mp c_1)]) dM_mixed_29
  · have hg : FP.dcmp (FP.dadd w1 o1) 0 = some .gt := Classical.not_not.mp fun h => c_1 ((cv_l_le _).mpr h)
    refine lv_dload_n hx hb dM_mixed_13 rfl (lv_at hl 1 rfl) ?_
    refine lv_dload_n hx hb dM_mixed_14 rfl (lv_at hl 2 rfl) ?_
    refine lv_dmul hx hb dM_mixed_15 ((hok.2 hg).1) ?_
    refine lv_dload hx hb dM_mixed_16 (lv_at hl 3 rfl) ?_
    refine lv_dload hx hb dM_mixed_18 (lv_at hl 4 rfl) ?_
    refine lv_dmul hx hb dM_mixed_20 ((hok.2 hg).2.1) ?_
    refine lv_dadd hx hb dM_mixed_21 ((hok.2 hg).2.2.1) ?_
    refine lv_dload hx hb dM_mixed_22 (lv_at hl 0 rfl) ?_
    refine lv_ddiv hx hb dM_mixed_24 ((hok.2 hg).2.2.2) ?_
    refine lv_goto (tgt := 29) hx hb dM_mixed_25 (by decide) ?_
    exact ct_dret hx hb hr hlocks hP hK hD hS (by unfold mixD; rw [if_pos hg]) dM_mixed_29

set_option maxHeartbeats 4000000 in
set_option maxRecDepth 100000 in
/-- empty -/
theorem cM_isEmpty (l : Launch) (dC : Nat → ClassId) (dI : Nat → Nat → Nat) (tt : Nat → Nat) (sz : Nat) (ad : Nat → Nat) (cA : Nat → ClassId) (a : Nat → UInt64) (dv : Nat → Nat → UInt64) (ib : Nat → Int32) (ac : Nat → UInt64) (hs : Nat → Int32) (ht : Nat → UInt64) (hc hn : Int32) (rv : Nat → UInt64) (ra : UInt64) (dc nw : Int32) (Tm Ac ts : UInt64) (gt lt : Int32) : Ct l dC dI tt yM_isEmpty bM_isEmpty 1 (some .boolean) ({ frames := 0, cells := 0, slots := 0, locals := 0 }) (tM cA) [.ref (ad 0)] (wM ad cA a dv ib ac hs ht hc hn rv ra dc nw Tm Ac ts gt lt) sz (fun A => ctQc dC dI (tM cA) (gt = 0 ∨ lt = 0) 1 (wM ad cA a dv ib ac hs ht hc hn rv ra dc nw Tm Ac ts gt lt) 0 (wM ad cA a dv ib ac hs ht hc hn rv ra dc nw Tm Ac ts gt lt) A) := by
  refine ct_of (by decide) (Nat.le_of_ble_eq_true rfl) ?_
  intro p e s m below meth c A ls hx hb hr hts hown hml hlocks hnm hA hS hP hK hD hT hl
  have hl : lv_has ls 1 [(0, .ref (ad 0))] := hl
  refine lv_aload_n hx hb dM_isEmpty_0 rfl (lv_at hl 0 rfl) ?_
  refine va_get (D := (dC, dI)) (ci := 0) (v := .int gt) (C := "MashEnzymes") (T := F_M) (N := 13) hx hb hts in_M hown hK hP 0 rfl rfl 11 (by decide) (hts _ tw_f_M_56) (fun _ h9 => h9) rfl dM_isEmpty_1 ?_
  refine lv_if_eq (tgt := 14) hx hb dM_isEmpty_4 (by decide) (fun c_1 => ?_) (fun c_1 => ?_)
  · refine lv_iconst (v := 1) hx hb dM_isEmpty_14 (by decide) ?_
    refine lv_goto (tgt := 19) hx hb dM_isEmpty_15 (by decide) ?_
    exact ct_ret1 hx hb hr rfl hlocks hP hK hD hS (Or.inl c_1) rfl dM_isEmpty_19
  · refine lv_aload_n hx hb dM_isEmpty_7 rfl (lv_at hl 0 rfl) ?_
    refine va_get (D := (dC, dI)) (ci := 0) (v := .int lt) (C := "MashEnzymes") (T := F_M) (N := 13) hx hb hts in_M hown hK hP 0 rfl rfl 12 (by decide) (hts _ tw_f_M_78) (fun _ h9 => h9) rfl dM_isEmpty_8 ?_
    refine lv_if_ne (tgt := 18) hx hb dM_isEmpty_11 (by decide) (fun c_2 => ?_) (fun c_2 => ?_)
    · refine lv_iconst (v := 0) hx hb dM_isEmpty_18 (by decide) ?_
      exact ct_ret0 hx hb hr rfl hlocks hP hK hD hS (fun h => h.elim c_1 c_2) rfl dM_isEmpty_19
    · refine lv_iconst (v := 1) hx hb dM_isEmpty_14 (by decide) ?_
      refine lv_goto (tgt := 19) hx hb dM_isEmpty_15 (by decide) ?_
      exact ct_ret1 hx hb hr rfl hlocks hP hK hD hS (Or.inr c_2) rfl dM_isEmpty_19

set_option maxHeartbeats 4000000 in
set_option maxRecDepth 100000 in
/-- how the acidity fits -/
theorem cM_acidityFitness (l : Launch) (dC : Nat → ClassId) (dI : Nat → Nat → Nat) (tt : Nat → Nat) (sz : Nat) (ad : Nat → Nat) (cA : Nat → ClassId) (a : Nat → UInt64) (dv : Nat → Nat → UInt64) (ib : Nat → Int32) (ac : Nat → UInt64) (hs : Nat → Int32) (ht : Nat → UInt64) (hc hn : Int32) (rv : Nat → UInt64) (ra : UInt64) (dc nw : Int32) (Tm Ac ts : UInt64) (gt lt : Int32) (hAc : ft_P Ac) : Ct l dC dI tt yM_acidityFitness bM_acidityFitness 3 (some .double) ({ frames := 0, cells := 0, slots := 0, locals := 0 }) (tM cA) [.ref (ad 0)] (wM ad cA a dv ib ac hs ht hc hn rv ra dc nw Tm Ac ts gt lt) sz (fun A => ctQd dC dI (tM cA) (fitA Ac) (wM ad cA a dv ib ac hs ht hc hn rv ra dc nw Tm Ac ts gt lt) A) := by
  refine ct_of (by decide) (Nat.le_of_ble_eq_true rfl) ?_
  intro p e s m below meth c A ls hx hb hr hts hown hml hlocks hnm hA hS hP hK hD hT hl
  have hl : lv_has ls 3 [(0, .ref (ad 0))] := hl
  refine lv_dconst1 hx hb dM_acidityFitness_0 ?_
  refine ct_topd (y := 4607182418800017408) rfl ?_
  refine lv_aload_n hx hb dM_acidityFitness_1 rfl (lv_at hl 0 rfl) ?_
  refine va_get (D := (dC, dI)) (ci := 0) (v := .double Ac) (C := "MashEnzymes") (T := F_M) (N := 13) hx hb hts in_M hown hK hP 0 rfl rfl 9 (by decide) (hts _ tw_f_M_75) (fun _ h9 => h9) rfl dM_acidityFitness_2 ?_
  refine lv_ldc2d hx hb hown (hts _ tw_d_M_149) dM_acidityFitness_5 ?_
  refine lv_dsub hx hb dM_acidityFitness_8 ((ft_fitness hAc).1) ?_
  refine lv_aload_n hx hb dM_acidityFitness_9 rfl (lv_at hl 0 rfl) ?_
  refine va_get (D := (dC, dI)) (ci := 0) (v := .double Ac) (C := "MashEnzymes") (T := F_M) (N := 13) hx hb hts in_M hown hK hP 0 rfl rfl 9 (by decide) (hts _ tw_f_M_75) (fun _ h9 => h9) rfl dM_acidityFitness_10 ?_
  refine lv_ldc2d hx hb hown (hts _ tw_d_M_149) dM_acidityFitness_13 ?_
  refine lv_dsub hx hb dM_acidityFitness_16 ((ft_fitness hAc).1) ?_
  refine lv_dmul hx hb dM_acidityFitness_17 ((ft_fitness hAc).2.1) ?_
  refine lv_ldc2d hx hb hown (hts _ tw_d_M_151) dM_acidityFitness_18 ?_
  refine lv_dmul hx hb dM_acidityFitness_21 ((ft_fitness hAc).2.2.1) ?_
  refine lv_dsub hx hb dM_acidityFitness_22 ((ft_fitness hAc).2.2.2.1) ?_
  refine lv_dstore_n (lv' := [(1, .double (FP.dsub 4607182418800017408 (FP.dmul (FP.dmul (FP.dsub Ac 4617878467915022336) (FP.dsub Ac 4617878467915022336)) 4598175219545276416))), (0, .ref (ad 0))]) hx hb dM_acidityFitness_23 rfl hl (by decide) rfl (fun ls hl => ?_)
  refine lv_dload_n hx hb dM_acidityFitness_24 rfl (lv_at hl 0 rfl) ?_
  refine lv_dconst0 hx hb dM_acidityFitness_25 ?_
  refine ct_topd (y := 0) rfl ?_
  refine lv_dcmp hx hb dM_acidityFitness_26 ?_
  refine lv_if_ge (tgt := 34) hx hb dM_acidityFitness_27 (by decide) (fun c_1 => ?_) (fun c_1 => ?_)
  · refine lv_dload_n hx hb dM_acidityFitness_34 rfl (lv_at hl 0 rfl) ?_
    exact ct_dret hx hb hr hlocks hP hK hD hS (by unfold fitA; rw [if_neg ((cv_g_ge _).mp c_1)]) dM_acidityFitness_35
  · refine lv_dconst0 hx hb dM_acidityFitness_30 ?_
    refine ct_topd (y := 0) rfl ?_
    refine lv_goto (tgt := 35) hx hb dM_acidityFitness_31 (by decide) ?_
    exact ct_dret hx hb hr hlocks hP hK hD hS (by unfold fitA; rw [if_pos (Classical.not_not.mp fun h => c_1 ((cv_g_ge _).mpr h))]) dM_acidityFitness_35

set_option maxHeartbeats 4000000 in
set_option maxRecDepth 100000 in
/-- (3) -/
theorem cM_gelStarch (l : Launch) (dC : Nat → ClassId) (dI : Nat → Nat → Nat) (tt : Nat → Nat) (sz : Nat) (ad : Nat → Nat) (cA : Nat → ClassId) (a : Nat → UInt64) (dv : Nat → Nat → UInt64) (ib : Nat → Int32) (ac : Nat → UInt64) (hs : Nat → Int32) (ht : Nat → UInt64) (hc hn : Int32) (rv : Nat → UInt64) (ra : UInt64) (dc nw : Int32) (Tm Ac ts : UInt64) (gt lt : Int32) (hok : ok3 a rv) : Ct l dC dI tt yM_gelStarch bM_gelStarch 3 none ({ frames := 1, cells := 0, slots := 0, locals := 20 }) (tM cA) [.ref (ad 0)] (wM ad cA a dv ib ac hs ht hc hn rv ra dc nw Tm Ac ts gt lt) sz (fun A => ctQv dC dI (tM cA) (wM ad cA (s3 a rv) dv ib ac hs ht hc hn rv ra dc nw Tm Ac ts gt lt) A) := by
  refine ct_of (by decide) (Nat.le_of_ble_eq_true rfl) ?_
  intro p e s m below meth c A ls hx hb hr hts hown hml hlocks hnm hA hS hP hK hD hT hl
  have hl : lv_has ls 3 [(0, .ref (ad 0))] := hl
  refine lv_aload_n hx hb dM_gelStarch_0 rfl (lv_at hl 0 rfl) ?_
  refine va_get (D := (dC, dI)) (ci := 0) (v := .ref (ad 1)) (C := "MashEnzymes") (T := F_M) (N := 13) hx hb hts in_M hown hK hP 0 rfl rfl 0 (by decide) (hts _ tw_f_M_9) (fun _ h9 => h9) rfl dM_gelStarch_1 ?_
  refine lv_iconst (v := 1) hx hb dM_gelStarch_4 (by decide) ?_
  refine ct_dald (k := 1) (v := a 1) hx hb hK hP 1 0 rfl rfl (by unfold vp_in; decide) (rfl) (rfl) dM_gelStarch_5 ?_
  refine lv_aload_n hx hb dM_gelStarch_6 rfl (lv_at hl 0 rfl) ?_
  refine va_get (D := (dC, dI)) (ci := 0) (v := .ref (ad 8)) (C := "MashEnzymes") (T := F_M) (N := 13) hx hb hts in_M hown hK hP 0 rfl rfl 5 (by decide) (hts _ tw_f_M_35) (fun _ h9 => h9) rfl dM_gelStarch_7 ?_
  refine ct_cvd (As := []) (rest := [.double (a 1)]) (wr := [((ad 0), .inr (0, [.ref (ad 1), .ref (ad 2), .ref (ad 3), .ref (ad 4), .ref (ad 5), .ref (ad 8), .int dc, .int nw, .double Tm, .double Ac, .double ts, .int gt, .int lt])), ((ad 1), .inl (cA 0, 13, .inr (.inr (.inr (.inl a))))), ((ad 2), .inl (cA 1, 8, .inr (.inr (.inr (.inr (fun i => if i < 8 then some (ad (i + 10)) else none)))))), ((ad 3), .inl (cA 2, 8, .inl ib)), ((ad 4), .inl (cA 3, 4, .inr (.inr (.inr (.inl ac))))), ((ad 5), .inr (1, [.ref (ad 6), .ref (ad 7), .int hc, .int hn])), ((ad 6), .inl (cA 4, 32, .inl hs)), ((ad 7), .inl (cA 5, 32, .inr (.inr (.inr (.inl ht))))), ((ad 10), .inl (cA 7, 13, .inr (.inr (.inr (.inl (dv 0)))))), ((ad 11), .inl (cA 7, 13, .inr (.inr (.inr (.inl (dv 1)))))), ((ad 12), .inl (cA 7, 13, .inr (.inr (.inr (.inl (dv 2)))))), ((ad 13), .inl (cA 7, 13, .inr (.inr (.inr (.inl (dv 3)))))), ((ad 14), .inl (cA 7, 13, .inr (.inr (.inr (.inl (dv 4)))))), ((ad 15), .inl (cA 7, 13, .inr (.inr (.inr (.inl (dv 5)))))), ((ad 16), .inl (cA 7, 13, .inr (.inr (.inr (.inl (dv 6)))))), ((ad 17), .inl (cA 7, 13, .inr (.inr (.inr (.inl (dv 7))))))]) (w1 := (wQ (ad 8) (ad 9) (cA 6) rv ra)) ⟨hx, hb, hml, hown, hts⟩ (cQ_gelling l dC dI tt _ (ad 8) (ad 9) (cA 6) rv ra) (gT_V tw_m_M_153 tw_i_yQ_gelling tw_s_yQ_gelling tw_I_Q tw_c_yQ_gelling) ⟨rfl, by decide +kernel, by decide +kernel, (by decide +kernel : (parseMethodDescriptor yQ_gelling.desc).map (fun d => d.parameters.length) = some 0)⟩ ⟨by decide, by decide⟩ (ci := 2) rfl rfl rfl hP hD hK hS hA hT [8, 9] [0, 1, 2, 3, 4, 5, 6, 7, 10, 11, 12, 13, 14, 15, 16, 17] [6] (by decide) rfl rfl (by decide) (by decide) rfl hl.1 rfl (Nat.le_of_ble_eq_true rfl) dM_gelStarch_10 ⟨by decide, by decide⟩ (fun H locs hP hD hS => ?_)
  have hP := hP.sub (ws' := (wM ad cA a dv ib ac hs ht hc hn rv ra dc nw Tm Ac ts gt lt)) [0, 1, 2, 3, 4, 5, 6, 7, 16, 17, 8, 9, 10, 11, 12, 13, 14, 15] rfl
  have hD := hD.sub (ws' := (wM ad cA a dv ib ac hs ht hc hn rv ra dc nw Tm Ac ts gt lt)) [0, 1, 2, 3, 4, 5, 6, 7, 16, 17, 8, 9, 10, 11, 12, 13, 14, 15] (by decide) rfl
  refine lv_dmul hx hb dM_gelStarch_13 (hok.1) ?_
  refine lv_dstore_n (lv' := [(1, .double (FP.dmul (a 1) (rv 8))), (0, .ref (ad 0))]) hx hb dM_gelStarch_14 rfl hl (by decide) rfl (fun ls hl => ?_)
  refine lv_aload_n hx hb dM_gelStarch_15 rfl (lv_at hl 1 rfl) ?_
  refine va_get (D := (dC, dI)) (ci := 0) (v := .ref (ad 1)) (C := "MashEnzymes") (T := F_M) (N := 13) hx hb hts in_M hown hK hP 0 rfl rfl 0 (by decide) (hts _ tw_f_M_9) (fun _ h9 => h9) rfl dM_gelStarch_16 ?_
  refine lv_iconst (v := 1) hx hb dM_gelStarch_19 (by decide) ?_
  refine lv_aload_n hx hb dM_gelStarch_20 rfl (lv_at hl 1 rfl) ?_
  refine va_get (D := (dC, dI)) (ci := 0) (v := .ref (ad 1)) (C := "MashEnzymes") (T := F_M) (N := 13) hx hb hts in_M hown hK hP 0 rfl rfl 0 (by decide) (hts _ tw_f_M_9) (fun _ h9 => h9) rfl dM_gelStarch_21 ?_
  refine lv_iconst (v := 1) hx hb dM_gelStarch_24 (by decide) ?_
  refine ct_dald (k := 1) (v := a 1) hx hb hK hP 1 0 rfl rfl (by unfold vp_in; decide) (rfl) (rfl) dM_gelStarch_25 ?_
  refine lv_dload_n hx hb dM_gelStarch_26 rfl (lv_at hl 0 rfl) ?_
  refine lv_dsub hx hb dM_gelStarch_27 (hok.2.1) ?_
  refine ct_dast (k := 1) (w1 := (wM ad cA (vf_upd a 1 (FP.dsub (a 1) (FP.dmul (a 1) (rv 8)))) dv ib ac hs ht hc hn rv ra dc nw Tm Ac ts gt lt)) hx hb hK hP hD hS 1 0 rfl rfl (by unfold vp_in; decide) (rfl) (rfl) dM_gelStarch_28 (fun H locs hP hD hS => ?_)
  refine lv_aload_n hx hb dM_gelStarch_29 rfl (lv_at hl 1 rfl) ?_
  refine va_get (D := (dC, dI)) (ci := 0) (v := .ref (ad 1)) (C := "MashEnzymes") (T := F_M) (N := 13) hx hb hts in_M hown hK hP 0 rfl rfl 0 (by decide) (hts _ tw_f_M_9) (fun _ h9 => h9) rfl dM_gelStarch_30 ?_
  refine lv_iconst (v := 2) hx hb dM_gelStarch_33 (by decide) ?_
  refine lv_aload_n hx hb dM_gelStarch_34 rfl (lv_at hl 1 rfl) ?_
  refine va_get (D := (dC, dI)) (ci := 0) (v := .ref (ad 1)) (C := "MashEnzymes") (T := F_M) (N := 13) hx hb hts in_M hown hK hP 0 rfl rfl 0 (by decide) (hts _ tw_f_M_9) (fun _ h9 => h9) rfl dM_gelStarch_35 ?_
  refine lv_iconst (v := 2) hx hb dM_gelStarch_38 (by decide) ?_
  refine ct_dald (k := 2) (v := a 2) hx hb hK hP 1 0 rfl rfl (by unfold vp_in; decide) (rfl) (rfl) dM_gelStarch_39 ?_
  refine lv_dload_n hx hb dM_gelStarch_40 rfl (lv_at hl 0 rfl) ?_
  refine lv_dadd hx hb dM_gelStarch_41 (hok.2.2) ?_
  refine ct_dast (k := 2) (w1 := (wM ad cA (vf_upd (vf_upd a 1 (FP.dsub (a 1) (FP.dmul (a 1) (rv 8)))) 2 (FP.dadd (a 2) (FP.dmul (a 1) (rv 8)))) dv ib ac hs ht hc hn rv ra dc nw Tm Ac ts gt lt)) hx hb hK hP hD hS 1 0 rfl rfl (by unfold vp_in; decide) (rfl) (rfl) dM_gelStarch_42 (fun H locs hP hD hS => ?_)
  exact ct_vret hx hb hr hlocks hP hK hD hS dM_gelStarch_43

set_option maxHeartbeats 4000000 in
set_option maxRecDepth 100000 in
/-- (4) -/
theorem cM_splitGelledStarch (l : Launch) (dC : Nat → ClassId) (dI : Nat → Nat → Nat) (tt : Nat → Nat) (sz : Nat) (ad : Nat → Nat) (cA : Nat → ClassId) (a : Nat → UInt64) (dv : Nat → Nat → UInt64) (ib : Nat → Int32) (ac : Nat → UInt64) (hs : Nat → Int32) (ht : Nat → UInt64) (hc hn : Int32) (rv : Nat → UInt64) (ra : UInt64) (dc nw : Int32) (Tm Ac ts : UInt64) (gt lt : Int32) (hok : ok4 a ac) : Ct l dC dI tt yM_splitGelledStarch bM_splitGelledStarch 3 none ({ frames := 0, cells := 0, slots := 0, locals := 0 }) (tM cA) [.ref (ad 0)] (wM ad cA a dv ib ac hs ht hc hn rv ra dc nw Tm Ac ts gt lt) sz (fun A => ctQv dC dI (tM cA) (wM ad cA (s4 a ac) dv ib ac hs ht hc hn rv ra dc nw Tm Ac ts gt lt) A) := by
  refine ct_of (by decide) (Nat.le_of_ble_eq_true rfl) ?_
  intro p e s m below meth c A ls hx hb hr hts hown hml hlocks hnm hA hS hP hK hD hT hl
  have hl : lv_has ls 3 [(0, .ref (ad 0))] := hl
  refine lv_aload_n hx hb dM_splitGelledStarch_0 rfl (lv_at hl 0 rfl) ?_
  refine va_get (D := (dC, dI)) (ci := 0) (v := .ref (ad 1)) (C := "MashEnzymes") (T := F_M) (N := 13) hx hb hts in_M hown hK hP 0 rfl rfl 0 (by decide) (hts _ tw_f_M_9) (fun _ h9 => h9) rfl dM_splitGelledStarch_1 ?_
  refine lv_iconst (v := 2) hx hb dM_splitGelledStarch_4 (by decide) ?_
  refine ct_dald (k := 2) (v := a 2) hx hb hK hP 1 0 rfl rfl (by unfold vp_in; decide) (rfl) (rfl) dM_splitGelledStarch_5 ?_
  refine lv_aload_n hx hb dM_splitGelledStarch_6 rfl (lv_at hl 0 rfl) ?_
  refine va_get (D := (dC, dI)) (ci := 0) (v := .ref (ad 4)) (C := "MashEnzymes") (T := F_M) (N := 13) hx hb hts in_M hown hK hP 0 rfl rfl 3 (by decide) (hts _ tw_f_M_22) (fun _ h9 => h9) rfl dM_splitGelledStarch_7 ?_
  refine lv_iconst (v := 0) hx hb dM_splitGelledStarch_10 (by decide) ?_
  refine ct_dald (k := 0) (v := ac 0) hx hb hK hP 4 3 rfl rfl (by unfold vp_in; decide) (rfl) (rfl) dM_splitGelledStarch_11 ?_
  refine lv_dmul hx hb dM_splitGelledStarch_12 (hok.1) ?_
  refine lv_dstore_n (lv' := [(1, .double (FP.dmul (a 2) (ac 0))), (0, .ref (ad 0))]) hx hb dM_splitGelledStarch_13 rfl hl (by decide) rfl (fun ls hl => ?_)
  refine lv_aload_n hx hb dM_splitGelledStarch_14 rfl (lv_at hl 1 rfl) ?_
  refine va_get (D := (dC, dI)) (ci := 0) (v := .ref (ad 1)) (C := "MashEnzymes") (T := F_M) (N := 13) hx hb hts in_M hown hK hP 0 rfl rfl 0 (by decide) (hts _ tw_f_M_9) (fun _ h9 => h9) rfl dM_splitGelledStarch_15 ?_
  refine lv_iconst (v := 2) hx hb dM_splitGelledStarch_18 (by decide) ?_
  refine lv_aload_n hx hb dM_splitGelledStarch_19 rfl (lv_at hl 1 rfl) ?_
  refine va_get (D := (dC, dI)) (ci := 0) (v := .ref (ad 1)) (C := "MashEnzymes") (T := F_M) (N := 13) hx hb hts in_M hown hK hP 0 rfl rfl 0 (by decide) (hts _ tw_f_M_9) (fun _ h9 => h9) rfl dM_splitGelledStarch_20 ?_
  refine lv_iconst (v := 2) hx hb dM_splitGelledStarch_23 (by decide) ?_
  refine ct_dald (k := 2) (v := a 2) hx hb hK hP 1 0 rfl rfl (by unfold vp_in; decide) (rfl) (rfl) dM_splitGelledStarch_24 ?_
  refine lv_dload_n hx hb dM_splitGelledStarch_25 rfl (lv_at hl 0 rfl) ?_
  refine lv_dsub hx hb dM_splitGelledStarch_26 (hok.2.1) ?_
  refine ct_dast (k := 2) (w1 := (wM ad cA (vf_upd a 2 (FP.dsub (a 2) (FP.dmul (a 2) (ac 0)))) dv ib ac hs ht hc hn rv ra dc nw Tm Ac ts gt lt)) hx hb hK hP hD hS 1 0 rfl rfl (by unfold vp_in; decide) (rfl) (rfl) dM_splitGelledStarch_27 (fun H locs hP hD hS => ?_)
  refine lv_aload_n hx hb dM_splitGelledStarch_28 rfl (lv_at hl 1 rfl) ?_
  refine va_get (D := (dC, dI)) (ci := 0) (v := .ref (ad 1)) (C := "MashEnzymes") (T := F_M) (N := 13) hx hb hts in_M hown hK hP 0 rfl rfl 0 (by decide) (hts _ tw_f_M_9) (fun _ h9 => h9) rfl dM_splitGelledStarch_29 ?_
  refine lv_bipush (v := 6) hx hb dM_splitGelledStarch_32 (by decide) ?_
  refine lv_aload_n hx hb dM_splitGelledStarch_34 rfl (lv_at hl 1 rfl) ?_
  refine va_get (D := (dC, dI)) (ci := 0) (v := .ref (ad 1)) (C := "MashEnzymes") (T := F_M) (N := 13) hx hb hts in_M hown hK hP 0 rfl rfl 0 (by decide) (hts _ tw_f_M_9) (fun _ h9 => h9) rfl dM_splitGelledStarch_35 ?_
  refine lv_bipush (v := 6) hx hb dM_splitGelledStarch_38 (by decide) ?_
  refine ct_dald (k := 6) (v := a 6) hx hb hK hP 1 0 rfl rfl (by unfold vp_in; decide) (rfl) (rfl) dM_splitGelledStarch_40 ?_
  refine lv_dload_n hx hb dM_splitGelledStarch_41 rfl (lv_at hl 0 rfl) ?_
  refine lv_ldc2d hx hb hown (hts _ tw_d_M_156) dM_splitGelledStarch_42 ?_
  refine lv_dmul hx hb dM_splitGelledStarch_45 (hok.2.2.1) ?_
  refine lv_dadd hx hb dM_splitGelledStarch_46 (hok.2.2.2.1) ?_
  refine ct_dast (k := 6) (w1 := (wM ad cA (vf_upd (vf_upd a 2 (FP.dsub (a 2) (FP.dmul (a 2) (ac 0)))) 6 (FP.dadd (a 6) (FP.dmul (FP.dmul (a 2) (ac 0)) 4604930618986332160))) dv ib ac hs ht hc hn rv ra dc nw Tm Ac ts gt lt)) hx hb hK hP hD hS 1 0 rfl rfl (by unfold vp_in; decide) (rfl) (rfl) dM_splitGelledStarch_47 (fun H locs hP hD hS => ?_)
  refine lv_aload_n hx hb dM_splitGelledStarch_48 rfl (lv_at hl 1 rfl) ?_
  refine va_get (D := (dC, dI)) (ci := 0) (v := .ref (ad 1)) (C := "MashEnzymes") (T := F_M) (N := 13) hx hb hts in_M hown hK hP 0 rfl rfl 0 (by decide) (hts _ tw_f_M_9) (fun _ h9 => h9) rfl dM_splitGelledStarch_49 ?_
  refine lv_iconst (v := 5) hx hb dM_splitGelledStarch_52 (by decide) ?_
  refine lv_aload_n hx hb dM_splitGelledStarch_53 rfl (lv_at hl 1 rfl) ?_
  refine va_get (D := (dC, dI)) (ci := 0) (v := .ref (ad 1)) (C := "MashEnzymes") (T := F_M) (N := 13) hx hb hts in_M hown hK hP 0 rfl rfl 0 (by decide) (hts _ tw_f_M_9) (fun _ h9 => h9) rfl dM_splitGelledStarch_54 ?_
  refine lv_iconst (v := 5) hx hb dM_splitGelledStarch_57 (by decide) ?_
  refine ct_dald (k := 5) (v := a 5) hx hb hK hP 1 0 rfl rfl (by unfold vp_in; decide) (rfl) (rfl) dM_splitGelledStarch_58 ?_
  refine lv_dload_n hx hb dM_splitGelledStarch_59 rfl (lv_at hl 0 rfl) ?_
  refine lv_ldc2d hx hb hown (hts _ tw_d_M_151) dM_splitGelledStarch_60 ?_
  refine lv_dmul hx hb dM_splitGelledStarch_63 (hok.2.2.2.2.1) ?_
  refine lv_dadd hx hb dM_splitGelledStarch_64 (hok.2.2.2.2.2) ?_
  refine ct_dast (k := 5) (w1 := (wM ad cA (vf_upd (vf_upd (vf_upd a 2 (FP.dsub (a 2) (FP.dmul (a 2) (ac 0)))) 6 (FP.dadd (a 6) (FP.dmul (FP.dmul (a 2) (ac 0)) 4604930618986332160))) 5 (FP.dadd (a 5) (FP.dmul (FP.dmul (a 2) (ac 0)) 4598175219545276416))) dv ib ac hs ht hc hn rv ra dc nw Tm Ac ts gt lt)) hx hb hK hP hD hS 1 0 rfl rfl (by unfold vp_in; decide) (rfl) (rfl) dM_splitGelledStarch_65 (fun H locs hP hD hS => ?_)
  exact ct_vret hx hb hr hlocks hP hK hD hS dM_splitGelledStarch_66

set_option maxHeartbeats 4000000 in
set_option maxRecDepth 100000 in
/-- (5) -/
theorem cM_splitDextrinsToMaltose (l : Launch) (dC : Nat → ClassId) (dI : Nat → Nat → Nat) (tt : Nat → Nat) (sz : Nat) (ad : Nat → Nat) (cA : Nat → ClassId) (a : Nat → UInt64) (dv : Nat → Nat → UInt64) (ib : Nat → Int32) (ac : Nat → UInt64) (hs : Nat → Int32) (ht : Nat → UInt64) (hc hn : Int32) (rv : Nat → UInt64) (ra : UInt64) (dc nw : Int32) (Tm Ac ts : UInt64) (gt lt : Int32) (hok : ok5 a ac) : Ct l dC dI tt yM_splitDextrinsToMaltose bM_splitDextrinsToMaltose 3 none ({ frames := 1, cells := 0, slots := 0, locals := 23 }) (tM cA) [.ref (ad 0)] (wM ad cA a dv ib ac hs ht hc hn rv ra dc nw Tm Ac ts gt lt) sz (fun A => ctQv dC dI (tM cA) (wM ad cA (s5 a ac) dv ib ac hs ht hc hn rv ra dc nw Tm Ac ts gt lt) A) := by
  refine ct_of (by decide) (Nat.le_of_ble_eq_true rfl) ?_
  intro p e s m below meth c A ls hx hb hr hts hown hml hlocks hnm hA hS hP hK hD hT hl
  have hl : lv_has ls 3 [(0, .ref (ad 0))] := hl
  refine lv_aload_n hx hb dM_splitDextrinsToMaltose_0 rfl (lv_at hl 0 rfl) ?_
  refine va_get (D := (dC, dI)) (ci := 0) (v := .ref (ad 1)) (C := "MashEnzymes") (T := F_M) (N := 13) hx hb hts in_M hown hK hP 0 rfl rfl 0 (by decide) (hts _ tw_f_M_9) (fun _ h9 => h9) rfl dM_splitDextrinsToMaltose_1 ?_
  refine lv_bipush (v := 6) hx hb dM_splitDextrinsToMaltose_4 (by decide) ?_
  refine ct_dald (k := 6) (v := a 6) hx hb hK hP 1 0 rfl rfl (by unfold vp_in; decide) (rfl) (rfl) dM_splitDextrinsToMaltose_6 ?_
  refine lv_aload_n hx hb dM_splitDextrinsToMaltose_7 rfl (lv_at hl 0 rfl) ?_
  refine va_get (D := (dC, dI)) (ci := 0) (v := .ref (ad 4)) (C := "MashEnzymes") (T := F_M) (N := 13) hx hb hts in_M hown hK hP 0 rfl rfl 3 (by decide) (hts _ tw_f_M_22) (fun _ h9 => h9) rfl dM_splitDextrinsToMaltose_8 ?_
  refine lv_iconst (v := 1) hx hb dM_splitDextrinsToMaltose_11 (by decide) ?_
  refine ct_dald (k := 1) (v := ac 1) hx hb hK hP 4 3 rfl rfl (by unfold vp_in; decide) (rfl) (rfl) dM_splitDextrinsToMaltose_12 ?_
  refine lv_dmul hx hb dM_splitDextrinsToMaltose_13 (hok.1) ?_
  refine lv_aload_n hx hb dM_splitDextrinsToMaltose_14 rfl (lv_at hl 0 rfl) ?_
  refine va_get (D := (dC, dI)) (ci := 0) (v := .ref (ad 1)) (C := "MashEnzymes") (T := F_M) (N := 13) hx hb hts in_M hown hK hP 0 rfl rfl 0 (by decide) (hts _ tw_f_M_9) (fun _ h9 => h9) rfl dM_splitDextrinsToMaltose_15 ?_
  refine lv_iconst (v := 0) hx hb dM_splitDextrinsToMaltose_18 (by decide) ?_
  refine ct_dald (k := 0) (v := a 0) hx hb hK hP 1 0 rfl rfl (by unfold vp_in; decide) (rfl) (rfl) dM_splitDextrinsToMaltose_19 ?_
  refine lv_ldc2d hx hb hown (hts _ tw_d_M_54) dM_splitDextrinsToMaltose_20 ?_
  refine lv_dmul hx hb dM_splitDextrinsToMaltose_23 (hok.2.1) ?_
  refine ct_csd (As := [.double (FP.dmul (a 6) (ac 1)), .double (FP.dmul (a 0) 4620693217682128896)]) (rest := []) (wr := (wM ad cA a dv ib ac hs ht hc hn rv ra dc nw Tm Ac ts gt lt)) ⟨hx, hb, hml, hown, hts⟩ (cM_lesser l dC dI tt _ (FP.dmul (a 6) (ac 1)) (FP.dmul (a 0) 4620693217682128896)) (gT_S tw_m_M_158 tw_st_yM_lesser tw_I_M tw_c_yM_lesser) ⟨by decide +kernel, by decide +kernel, (by decide +kernel : (parseMethodDescriptor yM_lesser.desc).map (fun d => d.parameters.length) = some 2)⟩ ⟨by decide, by decide⟩ hP hD hK hS hA hT [0, 1, 2, 3, 4, 5, 6, 7, 8, 9, 10, 11, 12, 13, 14, 15, 16, 17] rfl (by decide) hl.1 rfl (Nat.le_of_ble_eq_true rfl) dM_splitDextrinsToMaltose_24 ⟨by decide, by decide⟩ (fun H locs hP hD hS => ?_)
  refine lv_dstore_n (lv' := [(1, .double (y5 a ac)), (0, .ref (ad 0))]) hx hb dM_splitDextrinsToMaltose_27 rfl hl (by decide) rfl (fun ls hl => ?_)
  refine lv_aload_n hx hb dM_splitDextrinsToMaltose_28 rfl (lv_at hl 1 rfl) ?_
  refine va_get (D := (dC, dI)) (ci := 0) (v := .ref (ad 1)) (C := "MashEnzymes") (T := F_M) (N := 13) hx hb hts in_M hown hK hP 0 rfl rfl 0 (by decide) (hts _ tw_f_M_9) (fun _ h9 => h9) rfl dM_splitDextrinsToMaltose_29 ?_
  refine lv_bipush (v := 6) hx hb dM_splitDextrinsToMaltose_32 (by decide) ?_
  refine lv_aload_n hx hb dM_splitDextrinsToMaltose_34 rfl (lv_at hl 1 rfl) ?_
  refine va_get (D := (dC, dI)) (ci := 0) (v := .ref (ad 1)) (C := "MashEnzymes") (T := F_M) (N := 13) hx hb hts in_M hown hK hP 0 rfl rfl 0 (by decide) (hts _ tw_f_M_9) (fun _ h9 => h9) rfl dM_splitDextrinsToMaltose_35 ?_
  refine lv_bipush (v := 6) hx hb dM_splitDextrinsToMaltose_38 (by decide) ?_
  refine ct_dald (k := 6) (v := a 6) hx hb hK hP 1 0 rfl rfl (by unfold vp_in; decide) (rfl) (rfl) dM_splitDextrinsToMaltose_40 ?_
  refine lv_dload_n hx hb dM_splitDextrinsToMaltose_41 rfl (lv_at hl 0 rfl) ?_
  refine lv_dsub hx hb dM_splitDextrinsToMaltose_42 (hok.2.2.1) ?_
  refine ct_dast (k := 6) (w1 := (wM ad cA (vf_upd a 6 (FP.dsub (a 6) (y5 a ac))) dv ib ac hs ht hc hn rv ra dc nw Tm Ac ts gt lt)) hx hb hK hP hD hS 1 0 rfl rfl (by unfold vp_in; decide) (rfl) (rfl) dM_splitDextrinsToMaltose_43 (fun H locs hP hD hS => ?_)
  refine lv_aload_n hx hb dM_splitDextrinsToMaltose_44 rfl (lv_at hl 1 rfl) ?_
  refine va_get (D := (dC, dI)) (ci := 0) (v := .ref (ad 1)) (C := "MashEnzymes") (T := F_M) (N := 13) hx hb hts in_M hown hK hP 0 rfl rfl 0 (by decide) (hts _ tw_f_M_9) (fun _ h9 => h9) rfl dM_splitDextrinsToMaltose_45 ?_
  refine lv_iconst (v := 4) hx hb dM_splitDextrinsToMaltose_48 (by decide) ?_
  refine lv_aload_n hx hb dM_splitDextrinsToMaltose_49 rfl (lv_at hl 1 rfl) ?_
  refine va_get (D := (dC, dI)) (ci := 0) (v := .ref (ad 1)) (C := "MashEnzymes") (T := F_M) (N := 13) hx hb hts in_M hown hK hP 0 rfl rfl 0 (by decide) (hts _ tw_f_M_9) (fun _ h9 => h9) rfl dM_splitDextrinsToMaltose_50 ?_
  refine lv_iconst (v := 4) hx hb dM_splitDextrinsToMaltose_53 (by decide) ?_
  refine ct_dald (k := 4) (v := a 4) hx hb hK hP 1 0 rfl rfl (by unfold vp_in; decide) (rfl) (rfl) dM_splitDextrinsToMaltose_54 ?_
  refine lv_dload_n hx hb dM_splitDextrinsToMaltose_55 rfl (lv_at hl 0 rfl) ?_
  refine lv_ldc2d hx hb hown (hts _ tw_d_M_162) dM_splitDextrinsToMaltose_56 ?_
  refine lv_dmul hx hb dM_splitDextrinsToMaltose_59 (hok.2.2.2.1) ?_
  refine lv_dadd hx hb dM_splitDextrinsToMaltose_60 (hok.2.2.2.2.1) ?_
  refine ct_dast (k := 4) (w1 := (wM ad cA (vf_upd (vf_upd a 6 (FP.dsub (a 6) (y5 a ac))) 4 (FP.dadd (a 4) (FP.dmul (y5 a ac) 4607463893776728064))) dv ib ac hs ht hc hn rv ra dc nw Tm Ac ts gt lt)) hx hb hK hP hD hS 1 0 rfl rfl (by unfold vp_in; decide) (rfl) (rfl) dM_splitDextrinsToMaltose_61 (fun H locs hP hD hS => ?_)
  refine lv_aload_n hx hb dM_splitDextrinsToMaltose_62 rfl (lv_at hl 1 rfl) ?_
  refine va_get (D := (dC, dI)) (ci := 0) (v := .ref (ad 1)) (C := "MashEnzymes") (T := F_M) (N := 13) hx hb hts in_M hown hK hP 0 rfl rfl 0 (by decide) (hts _ tw_f_M_9) (fun _ h9 => h9) rfl dM_splitDextrinsToMaltose_63 ?_
  refine lv_iconst (v := 0) hx hb dM_splitDextrinsToMaltose_66 (by decide) ?_
  refine lv_aload_n hx hb dM_splitDextrinsToMaltose_67 rfl (lv_at hl 1 rfl) ?_
  refine va_get (D := (dC, dI)) (ci := 0) (v := .ref (ad 1)) (C := "MashEnzymes") (T := F_M) (N := 13) hx hb hts in_M hown hK hP 0 rfl rfl 0 (by decide) (hts _ tw_f_M_9) (fun _ h9 => h9) rfl dM_splitDextrinsToMaltose_68 ?_
  refine lv_iconst (v := 0) hx hb dM_splitDextrinsToMaltose_71 (by decide) ?_
  refine ct_dald (k := 0) (v := a 0) hx hb hK hP 1 0 rfl rfl (by unfold vp_in; decide) (rfl) (rfl) dM_splitDextrinsToMaltose_72 ?_
  refine lv_dload_n hx hb dM_splitDextrinsToMaltose_73 rfl (lv_at hl 0 rfl) ?_
  refine lv_ldc2d hx hb hown (hts _ tw_d_M_147) dM_splitDextrinsToMaltose_74 ?_
  refine lv_dmul hx hb dM_splitDextrinsToMaltose_77 (hok.2.2.2.2.2.1) ?_
  refine lv_dsub hx hb dM_splitDextrinsToMaltose_78 (hok.2.2.2.2.2.2) ?_
  refine ct_dast (k := 0) (w1 := (wM ad cA (vf_upd (vf_upd (vf_upd a 6 (FP.dsub (a 6) (y5 a ac))) 4 (FP.dadd (a 4) (FP.dmul (y5 a ac) 4607463893776728064))) 0 (FP.dsub (a 0) (FP.dmul (y5 a ac) 4589168020290535424))) dv ib ac hs ht hc hn rv ra dc nw Tm Ac ts gt lt)) hx hb hK hP hD hS 1 0 rfl rfl (by unfold vp_in; decide) (rfl) (rfl) dM_splitDextrinsToMaltose_79 (fun H locs hP hD hS => ?_)
  exact ct_vret hx hb hr hlocks hP hK hD hS dM_splitDextrinsToMaltose_80

set_option maxHeartbeats 4000000 in
set_option maxRecDepth 100000 in
/-- (6) -/
theorem cM_splitDextrinsToGlucose (l : Launch) (dC : Nat → ClassId) (dI : Nat → Nat → Nat) (tt : Nat → Nat) (sz : Nat) (ad : Nat → Nat) (cA : Nat → ClassId) (a : Nat → UInt64) (dv : Nat → Nat → UInt64) (ib : Nat → Int32) (ac : Nat → UInt64) (hs : Nat → Int32) (ht : Nat → UInt64) (hc hn : Int32) (rv : Nat → UInt64) (ra : UInt64) (dc nw : Int32) (Tm Ac ts : UInt64) (gt lt : Int32) (hok : ok6 a ac) : Ct l dC dI tt yM_splitDextrinsToGlucose bM_splitDextrinsToGlucose 3 none ({ frames := 1, cells := 0, slots := 0, locals := 23 }) (tM cA) [.ref (ad 0)] (wM ad cA a dv ib ac hs ht hc hn rv ra dc nw Tm Ac ts gt lt) sz (fun A => ctQv dC dI (tM cA) (wM ad cA (s6 a ac) dv ib ac hs ht hc hn rv ra dc nw Tm Ac ts gt lt) A) := by
  refine ct_of (by decide) (Nat.le_of_ble_eq_true rfl) ?_
  intro p e s m below meth c A ls hx hb hr hts hown hml hlocks hnm hA hS hP hK hD hT hl
  have hl : lv_has ls 3 [(0, .ref (ad 0))] := hl
  refine lv_aload_n hx hb dM_splitDextrinsToGlucose_0 rfl (lv_at hl 0 rfl) ?_
  refine va_get (D := (dC, dI)) (ci := 0) (v := .ref (ad 1)) (C := "MashEnzymes") (T := F_M) (N := 13) hx hb hts in_M hown hK hP 0 rfl rfl 0 (by decide) (hts _ tw_f_M_9) (fun _ h9 => h9) rfl dM_splitDextrinsToGlucose_1 ?_
  refine lv_bipush (v := 6) hx hb dM_splitDextrinsToGlucose_4 (by decide) ?_
  refine ct_dald (k := 6) (v := a 6) hx hb hK hP 1 0 rfl rfl (by unfold vp_in; decide) (rfl) (rfl) dM_splitDextrinsToGlucose_6 ?_
  refine lv_aload_n hx hb dM_splitDextrinsToGlucose_7 rfl (lv_at hl 0 rfl) ?_
  refine va_get (D := (dC, dI)) (ci := 0) (v := .ref (ad 4)) (C := "MashEnzymes") (T := F_M) (N := 13) hx hb hts in_M hown hK hP 0 rfl rfl 3 (by decide) (hts _ tw_f_M_22) (fun _ h9 => h9) rfl dM_splitDextrinsToGlucose_8 ?_
  refine lv_iconst (v := 2) hx hb dM_splitDextrinsToGlucose_11 (by decide) ?_
  refine ct_dald (k := 2) (v := ac 2) hx hb hK hP 4 3 rfl rfl (by unfold vp_in; decide) (rfl) (rfl) dM_splitDextrinsToGlucose_12 ?_
  refine lv_dmul hx hb dM_splitDextrinsToGlucose_13 (hok.1) ?_
  refine lv_aload_n hx hb dM_splitDextrinsToGlucose_14 rfl (lv_at hl 0 rfl) ?_
  refine va_get (D := (dC, dI)) (ci := 0) (v := .ref (ad 1)) (C := "MashEnzymes") (T := F_M) (N := 13) hx hb hts in_M hown hK hP 0 rfl rfl 0 (by decide) (hts _ tw_f_M_9) (fun _ h9 => h9) rfl dM_splitDextrinsToGlucose_15 ?_
  refine lv_iconst (v := 0) hx hb dM_splitDextrinsToGlucose_18 (by decide) ?_
  refine ct_dald (k := 0) (v := a 0) hx hb hK hP 1 0 rfl rfl (by unfold vp_in; decide) (rfl) (rfl) dM_splitDextrinsToGlucose_19 ?_
  refine lv_ldc2d hx hb hown (hts _ tw_d_M_164) dM_splitDextrinsToGlucose_20 ?_
  refine lv_dmul hx hb dM_splitDextrinsToGlucose_23 (hok.2.1) ?_
  refine ct_csd (As := [.double (FP.dmul (a 6) (ac 2)), .double (FP.dmul (a 0) 4611686018427387904)]) (rest := []) (wr := (wM ad cA a dv ib ac hs ht hc hn rv ra dc nw Tm Ac ts gt lt)) ⟨hx, hb, hml, hown, hts⟩ (cM_lesser l dC dI tt _ (FP.dmul (a 6) (ac 2)) (FP.dmul (a 0) 4611686018427387904)) (gT_S tw_m_M_158 tw_st_yM_lesser tw_I_M tw_c_yM_lesser) ⟨by decide +kernel, by decide +kernel, (by decide +kernel : (parseMethodDescriptor yM_lesser.desc).map (fun d => d.parameters.length) = some 2)⟩ ⟨by decide, by decide⟩ hP hD hK hS hA hT [0, 1, 2, 3, 4, 5, 6, 7, 8, 9, 10, 11, 12, 13, 14, 15, 16, 17] rfl (by decide) hl.1 rfl (Nat.le_of_ble_eq_true rfl) dM_splitDextrinsToGlucose_24 ⟨by decide, by decide⟩ (fun H locs hP hD hS => ?_)
  refine lv_dstore_n (lv' := [(1, .double (z6 a ac)), (0, .ref (ad 0))]) hx hb dM_splitDextrinsToGlucose_27 rfl hl (by decide) rfl (fun ls hl => ?_)
  refine lv_aload_n hx hb dM_splitDextrinsToGlucose_28 rfl (lv_at hl 1 rfl) ?_
  refine va_get (D := (dC, dI)) (ci := 0) (v := .ref (ad 1)) (C := "MashEnzymes") (T := F_M) (N := 13) hx hb hts in_M hown hK hP 0 rfl rfl 0 (by decide) (hts _ tw_f_M_9) (fun _ h9 => h9) rfl dM_splitDextrinsToGlucose_29 ?_
  refine lv_bipush (v := 6) hx hb dM_splitDextrinsToGlucose_32 (by decide) ?_
  refine lv_aload_n hx hb dM_splitDextrinsToGlucose_34 rfl (lv_at hl 1 rfl) ?_
  refine va_get (D := (dC, dI)) (ci := 0) (v := .ref (ad 1)) (C := "MashEnzymes") (T := F_M) (N := 13) hx hb hts in_M hown hK hP 0 rfl rfl 0 (by decide) (hts _ tw_f_M_9) (fun _ h9 => h9) rfl dM_splitDextrinsToGlucose_35 ?_
  refine lv_bipush (v := 6) hx hb dM_splitDextrinsToGlucose_38 (by decide) ?_
  refine ct_dald (k := 6) (v := a 6) hx hb hK hP 1 0 rfl rfl (by unfold vp_in; decide) (rfl) (rfl) dM_splitDextrinsToGlucose_40 ?_
  refine lv_dload_n hx hb dM_splitDextrinsToGlucose_41 rfl (lv_at hl 0 rfl) ?_
  refine lv_dsub hx hb dM_splitDextrinsToGlucose_42 (hok.2.2.1) ?_
  refine ct_dast (k := 6) (w1 := (wM ad cA (vf_upd a 6 (FP.dsub (a 6) (z6 a ac))) dv ib ac hs ht hc hn rv ra dc nw Tm Ac ts gt lt)) hx hb hK hP hD hS 1 0 rfl rfl (by unfold vp_in; decide) (rfl) (rfl) dM_splitDextrinsToGlucose_43 (fun H locs hP hD hS => ?_)
  refine lv_aload_n hx hb dM_splitDextrinsToGlucose_44 rfl (lv_at hl 1 rfl) ?_
  refine va_get (D := (dC, dI)) (ci := 0) (v := .ref (ad 1)) (C := "MashEnzymes") (T := F_M) (N := 13) hx hb hts in_M hown hK hP 0 rfl rfl 0 (by decide) (hts _ tw_f_M_9) (fun _ h9 => h9) rfl dM_splitDextrinsToGlucose_45 ?_
  refine lv_iconst (v := 3) hx hb dM_splitDextrinsToGlucose_48 (by decide) ?_
  refine lv_aload_n hx hb dM_splitDextrinsToGlucose_49 rfl (lv_at hl 1 rfl) ?_
  refine va_get (D := (dC, dI)) (ci := 0) (v := .ref (ad 1)) (C := "MashEnzymes") (T := F_M) (N := 13) hx hb hts in_M hown hK hP 0 rfl rfl 0 (by decide) (hts _ tw_f_M_9) (fun _ h9 => h9) rfl dM_splitDextrinsToGlucose_50 ?_
  refine lv_iconst (v := 3) hx hb dM_splitDextrinsToGlucose_53 (by decide) ?_
  refine ct_dald (k := 3) (v := a 3) hx hb hK hP 1 0 rfl rfl (by unfold vp_in; decide) (rfl) (rfl) dM_splitDextrinsToGlucose_54 ?_
  refine lv_dload_n hx hb dM_splitDextrinsToGlucose_55 rfl (lv_at hl 0 rfl) ?_
  refine lv_ldc2d hx hb hown (hts _ tw_d_M_166) dM_splitDextrinsToGlucose_56 ?_
  refine lv_dmul hx hb dM_splitDextrinsToGlucose_59 (hok.2.2.2.1) ?_
  refine lv_dadd hx hb dM_splitDextrinsToGlucose_60 (hok.2.2.2.2.1) ?_
  refine ct_dast (k := 3) (w1 := (wM ad cA (vf_upd (vf_upd a 6 (FP.dsub (a 6) (z6 a ac))) 3 (FP.dadd (a 3) (FP.dmul (z6 a ac) 4607745368753438720))) dv ib ac hs ht hc hn rv ra dc nw Tm Ac ts gt lt)) hx hb hK hP hD hS 1 0 rfl rfl (by unfold vp_in; decide) (rfl) (rfl) dM_splitDextrinsToGlucose_61 (fun H locs hP hD hS => ?_)
  refine lv_aload_n hx hb dM_splitDextrinsToGlucose_62 rfl (lv_at hl 1 rfl) ?_
  refine va_get (D := (dC, dI)) (ci := 0) (v := .ref (ad 1)) (C := "MashEnzymes") (T := F_M) (N := 13) hx hb hts in_M hown hK hP 0 rfl rfl 0 (by decide) (hts _ tw_f_M_9) (fun _ h9 => h9) rfl dM_splitDextrinsToGlucose_63 ?_
  refine lv_iconst (v := 0) hx hb dM_splitDextrinsToGlucose_66 (by decide) ?_
  refine lv_aload_n hx hb dM_splitDextrinsToGlucose_67 rfl (lv_at hl 1 rfl) ?_
  refine va_get (D := (dC, dI)) (ci := 0) (v := .ref (ad 1)) (C := "MashEnzymes") (T := F_M) (N := 13) hx hb hts in_M hown hK hP 0 rfl rfl 0 (by decide) (hts _ tw_f_M_9) (fun _ h9 => h9) rfl dM_splitDextrinsToGlucose_68 ?_
  refine lv_iconst (v := 0) hx hb dM_splitDextrinsToGlucose_71 (by decide) ?_
  refine ct_dald (k := 0) (v := a 0) hx hb hK hP 1 0 rfl rfl (by unfold vp_in; decide) (rfl) (rfl) dM_splitDextrinsToGlucose_72 ?_
  refine lv_dload_n hx hb dM_splitDextrinsToGlucose_73 rfl (lv_at hl 0 rfl) ?_
  refine lv_ldc2d hx hb hown (hts _ tw_d_M_168) dM_splitDextrinsToGlucose_74 ?_
  refine lv_dmul hx hb dM_splitDextrinsToGlucose_77 (hok.2.2.2.2.2.1) ?_
  refine lv_dsub hx hb dM_splitDextrinsToGlucose_78 (hok.2.2.2.2.2.2) ?_
  refine ct_dast (k := 0) (w1 := (wM ad cA (vf_upd (vf_upd (vf_upd a 6 (FP.dsub (a 6) (z6 a ac))) 3 (FP.dadd (a 3) (FP.dmul (z6 a ac) 4607745368753438720))) 0 (FP.dsub (a 0) (FP.dmul (z6 a ac) 4593671619917905920))) dv ib ac hs ht hc hn rv ra dc nw Tm Ac ts gt lt)) hx hb hK hP hD hS 1 0 rfl rfl (by unfold vp_in; decide) (rfl) (rfl) dM_splitDextrinsToGlucose_79 (fun H locs hP hD hS => ?_)
  exact ct_vret hx hb hr hlocks hP hK hD hS dM_splitDextrinsToGlucose_80

set_option maxHeartbeats 4000000 in
set_option maxRecDepth 100000 in
/-- (7) -/
theorem cM_splitProtein (l : Launch) (dC : Nat → ClassId) (dI : Nat → Nat → Nat) (tt : Nat → Nat) (sz : Nat) (ad : Nat → Nat) (cA : Nat → ClassId) (a : Nat → UInt64) (dv : Nat → Nat → UInt64) (ib : Nat → Int32) (ac : Nat → UInt64) (hs : Nat → Int32) (ht : Nat → UInt64) (hc hn : Int32) (rv : Nat → UInt64) (ra : UInt64) (dc nw : Int32) (Tm Ac ts : UInt64) (gt lt : Int32) (hok : ok7 a ac) : Ct l dC dI tt yM_splitProtein bM_splitProtein 3 none ({ frames := 0, cells := 0, slots := 0, locals := 0 }) (tM cA) [.ref (ad 0)] (wM ad cA a dv ib ac hs ht hc hn rv ra dc nw Tm Ac ts gt lt) sz (fun A => ctQv dC dI (tM cA) (wM ad cA (s7 a ac) dv ib ac hs ht hc hn rv ra dc nw Tm Ac ts gt lt) A) := by
  refine ct_of (by decide) (Nat.le_of_ble_eq_true rfl) ?_
  intro p e s m below meth c A ls hx hb hr hts hown hml hlocks hnm hA hS hP hK hD hT hl
  have hl : lv_has ls 3 [(0, .ref (ad 0))] := hl
  refine lv_aload_n hx hb dM_splitProtein_0 rfl (lv_at hl 0 rfl) ?_
  refine va_get (D := (dC, dI)) (ci := 0) (v := .ref (ad 1)) (C := "MashEnzymes") (T := F_M) (N := 13) hx hb hts in_M hown hK hP 0 rfl rfl 0 (by decide) (hts _ tw_f_M_9) (fun _ h9 => h9) rfl dM_splitProtein_1 ?_
  refine lv_bipush (v := 8) hx hb dM_splitProtein_4 (by decide) ?_
  refine ct_dald (k := 8) (v := a 8) hx hb hK hP 1 0 rfl rfl (by unfold vp_in; decide) (rfl) (rfl) dM_splitProtein_6 ?_
  refine lv_aload_n hx hb dM_splitProtein_7 rfl (lv_at hl 0 rfl) ?_
  refine va_get (D := (dC, dI)) (ci := 0) (v := .ref (ad 4)) (C := "MashEnzymes") (T := F_M) (N := 13) hx hb hts in_M hown hK hP 0 rfl rfl 3 (by decide) (hts _ tw_f_M_22) (fun _ h9 => h9) rfl dM_splitProtein_8 ?_
  refine lv_iconst (v := 3) hx hb dM_splitProtein_11 (by decide) ?_
  refine ct_dald (k := 3) (v := ac 3) hx hb hK hP 4 3 rfl rfl (by unfold vp_in; decide) (rfl) (rfl) dM_splitProtein_12 ?_
  refine lv_dmul hx hb dM_splitProtein_13 (hok.1) ?_
  refine lv_dstore_n (lv' := [(1, .double (FP.dmul (a 8) (ac 3))), (0, .ref (ad 0))]) hx hb dM_splitProtein_14 rfl hl (by decide) rfl (fun ls hl => ?_)
  refine lv_aload_n hx hb dM_splitProtein_15 rfl (lv_at hl 1 rfl) ?_
  refine va_get (D := (dC, dI)) (ci := 0) (v := .ref (ad 1)) (C := "MashEnzymes") (T := F_M) (N := 13) hx hb hts in_M hown hK hP 0 rfl rfl 0 (by decide) (hts _ tw_f_M_9) (fun _ h9 => h9) rfl dM_splitProtein_16 ?_
  refine lv_bipush (v := 8) hx hb dM_splitProtein_19 (by decide) ?_
  refine lv_aload_n hx hb dM_splitProtein_21 rfl (lv_at hl 1 rfl) ?_
  refine va_get (D := (dC, dI)) (ci := 0) (v := .ref (ad 1)) (C := "MashEnzymes") (T := F_M) (N := 13) hx hb hts in_M hown hK hP 0 rfl rfl 0 (by decide) (hts _ tw_f_M_9) (fun _ h9 => h9) rfl dM_splitProtein_22 ?_
  refine lv_bipush (v := 8) hx hb dM_splitProtein_25 (by decide) ?_
  refine ct_dald (k := 8) (v := a 8) hx hb hK hP 1 0 rfl rfl (by unfold vp_in; decide) (rfl) (rfl) dM_splitProtein_27 ?_
  refine lv_dload_n hx hb dM_splitProtein_28 rfl (lv_at hl 0 rfl) ?_
  refine lv_dsub hx hb dM_splitProtein_29 (hok.2.1) ?_
  refine ct_dast (k := 8) (w1 := (wM ad cA (vf_upd a 8 (FP.dsub (a 8) (FP.dmul (a 8) (ac 3)))) dv ib ac hs ht hc hn rv ra dc nw Tm Ac ts gt lt)) hx hb hK hP hD hS 1 0 rfl rfl (by unfold vp_in; decide) (rfl) (rfl) dM_splitProtein_30 (fun H locs hP hD hS => ?_)
  refine lv_aload_n hx hb dM_splitProtein_31 rfl (lv_at hl 1 rfl) ?_
  refine va_get (D := (dC, dI)) (ci := 0) (v := .ref (ad 1)) (C := "MashEnzymes") (T := F_M) (N := 13) hx hb hts in_M hown hK hP 0 rfl rfl 0 (by decide) (hts _ tw_f_M_9) (fun _ h9 => h9) rfl dM_splitProtein_32 ?_
  refine lv_bipush (v := 7) hx hb dM_splitProtein_35 (by decide) ?_
  refine lv_aload_n hx hb dM_splitProtein_37 rfl (lv_at hl 1 rfl) ?_
  refine va_get (D := (dC, dI)) (ci := 0) (v := .ref (ad 1)) (C := "MashEnzymes") (T := F_M) (N := 13) hx hb hts in_M hown hK hP 0 rfl rfl 0 (by decide) (hts _ tw_f_M_9) (fun _ h9 => h9) rfl dM_splitProtein_38 ?_
  refine lv_bipush (v := 7) hx hb dM_splitProtein_41 (by decide) ?_
  refine ct_dald (k := 7) (v := a 7) hx hb hK hP 1 0 rfl rfl (by unfold vp_in; decide) (rfl) (rfl) dM_splitProtein_43 ?_
  refine lv_dload_n hx hb dM_splitProtein_44 rfl (lv_at hl 0 rfl) ?_
  refine lv_dadd hx hb dM_splitProtein_45 (hok.2.2) ?_
  refine ct_dast (k := 7) (w1 := (wM ad cA (vf_upd (vf_upd a 8 (FP.dsub (a 8) (FP.dmul (a 8) (ac 3)))) 7 (FP.dadd (a 7) (FP.dmul (a 8) (ac 3)))) dv ib ac hs ht hc hn rv ra dc nw Tm Ac ts gt lt)) hx hb hK hP hD hS 1 0 rfl rfl (by unfold vp_in; decide) (rfl) (rfl) dM_splitProtein_46 (fun H locs hP hD hS => ?_)
  exact ct_vret hx hb hr hlocks hP hK hD hS dM_splitProtein_47

set_option maxHeartbeats 4000000 in
set_option maxRecDepth 100000 in
/-- (8) -/
theorem cM_decayEnzymes (l : Launch) (dC : Nat → ClassId) (dI : Nat → Nat → Nat) (tt : Nat → Nat) (sz : Nat) (ad : Nat → Nat) (cA : Nat → ClassId) (a : Nat → UInt64) (dv : Nat → Nat → UInt64) (ib : Nat → Int32) (ac : Nat → UInt64) (hs : Nat → Int32) (ht : Nat → UInt64) (hc hn : Int32) (rv : Nat → UInt64) (ra : UInt64) (dc nw : Int32) (Tm Ac ts : UInt64) (gt lt : Int32) (hok : ok8 a rv) : Ct l dC dI tt yM_decayEnzymes bM_decayEnzymes 4 none ({ frames := 1, cells := 0, slots := 0, locals := 21 }) (tM cA) [.ref (ad 0)] (wM ad cA a dv ib ac hs ht hc hn rv ra dc nw Tm Ac ts gt lt) sz (fun A => ctQv dC dI (tM cA) (wM ad cA (s8 a rv 4) dv ib ac hs ht hc hn rv ra dc nw Tm Ac ts gt lt) A) := by
  refine ct_of (by decide) (Nat.le_of_ble_eq_true rfl) ?_
  intro p e s m below meth c A ls hx hb hr hts hown hml hlocks hnm hA hS hP hK hD hT hl
  have hl : lv_has ls 4 [(0, .ref (ad 0))] := hl
  have key : ∀ (n i : Nat) (ls : Array Slot) (H : Heap) (locs : List Loc), n + i = 4 → va_P (dC, dI) cls (wM ad cA (s8 a rv i) dv ib ac hs ht hc hn rv ra dc nw Tm Ac ts gt lt) H → va_D A (wM ad cA (s8 a rv i) dv ib ac hs ht hc hn rv ra dc nw Tm Ac ts gt lt) → va_S A s.heap H locs → lv_has ls 4 [(1, .int (nI i)), (0, .ref (ad 0))] → W p l e ({ frames := 1, cells := 0, slots := 0, locals := 21 } : Room) s m ([.ref (ad 0)] : List Value).toArray below meth c H locs 0 0 (MQ below (ctQv dC dI (tM cA) (wM ad cA (s8 a rv 4) dv ib ac hs ht hc hn rv ra dc nw Tm Ac ts gt lt) A) ([.ref (ad 0)] : List Value).toArray s 0 0 A) (F0 m 2 ls []) := by
    intro n
    induction n with
    | zero =>
      intro i ls H locs hni hP hD hS hl
      refine lv_iload_n hx hb dM_decayEnzymes_2 rfl (lv_at hl 0 rfl) ?_
      refine lv_iconst (v := 4) hx hb dM_decayEnzymes_3 (by decide) ?_
      refine lv_icmp_ge (tgt := 44) hx hb dM_decayEnzymes_4 (by decide) (fun c_1 => ?_) (fun c_1 => ?_)
      · have hi : i = 4 := by omega
        subst hi
        exact ct_vret hx hb hr hlocks hP hK hD hS dM_decayEnzymes_44
      · exact absurd (nI_le (a := 4) (b := i) (by omega) (by omega)) c_1
    | succ n ih =>
      intro i ls H locs hni hP hD hS hl
      refine lv_iload_n hx hb dM_decayEnzymes_2 rfl (lv_at hl 0 rfl) ?_
      refine lv_iconst (v := 4) hx hb dM_decayEnzymes_3 (by decide) ?_
      refine lv_icmp_ge (tgt := 44) hx hb dM_decayEnzymes_4 (by decide) (fun c_2 => ?_) (fun c_2 => ?_)
      · exact absurd ((nI_leI (a := 4) (b := i) (by decide) (by omega)).mp c_2) (by omega)
      · have hi : i < 4 := by omega
        refine lv_aload_n hx hb dM_decayEnzymes_7 rfl (lv_at hl 1 rfl) ?_
        refine va_get (D := (dC, dI)) (ci := 0) (v := .ref (ad 1)) (C := "MashEnzymes") (T := F_M) (N := 13) hx hb hts in_M hown hK hP 0 rfl rfl 0 (by decide) (hts _ tw_f_M_9) (fun _ h9 => h9) rfl dM_decayEnzymes_8 ?_
        refine lv_bipush (v := 9) hx hb dM_decayEnzymes_11 (by decide) ?_
        refine lv_iload_n hx hb dM_decayEnzymes_13 rfl (lv_at hl 0 rfl) ?_
        refine lv_iadd hx hb dM_decayEnzymes_14 ?_
        refine ct_topi (y := nI (9 + i)) (by rw [show (9 : Int32) = nI 9 from rfl, nI_add]) ?_
        refine ct_dald (k := (9 + i)) (v := a (9 + i)) hx hb hK hP 1 0 rfl rfl (vp_in_nI (by omega) (by decide)) (nI_clamp (by omega)) (s8_at a rv i) dM_decayEnzymes_15 ?_
        refine lv_dstore_n (lv' := [(2, .double (a (9 + i))), (1, .int (nI i)), (0, .ref (ad 0))]) hx hb dM_decayEnzymes_16 rfl hl (by decide) rfl (fun ls hl => ?_)
        refine lv_aload_n hx hb dM_decayEnzymes_17 rfl (lv_at hl 2 rfl) ?_
        refine va_get (D := (dC, dI)) (ci := 0) (v := .ref (ad 1)) (C := "MashEnzymes") (T := F_M) (N := 13) hx hb hts in_M hown hK hP 0 rfl rfl 0 (by decide) (hts _ tw_f_M_9) (fun _ h9 => h9) rfl dM_decayEnzymes_18 ?_
        refine lv_bipush (v := 9) hx hb dM_decayEnzymes_21 (by decide) ?_
        refine lv_iload_n hx hb dM_decayEnzymes_23 rfl (lv_at hl 1 rfl) ?_
        refine lv_iadd hx hb dM_decayEnzymes_24 ?_
        refine ct_topi (y := nI (9 + i)) (by rw [show (9 : Int32) = nI 9 from rfl, nI_add]) ?_
        refine lv_dload_n hx hb dM_decayEnzymes_25 rfl (lv_at hl 0 rfl) ?_
        refine lv_dload_n hx hb dM_decayEnzymes_26 rfl (lv_at hl 0 rfl) ?_
        refine lv_aload_n hx hb dM_decayEnzymes_27 rfl (lv_at hl 2 rfl) ?_
        refine va_get (D := (dC, dI)) (ci := 0) (v := .ref (ad 8)) (C := "MashEnzymes") (T := F_M) (N := 13) hx hb hts in_M hown hK hP 0 rfl rfl 5 (by decide) (hts _ tw_f_M_35) (fun _ h9 => h9) rfl dM_decayEnzymes_28 ?_
        refine lv_iload_n hx hb dM_decayEnzymes_31 rfl (lv_at hl 1 rfl) ?_
        refine ct_cvd (As := [.int (nI i)]) (rest := [.double (a (9 + i)), .double (a (9 + i)), .int (nI (9 + i)), .ref (ad 1)]) (wr := [((ad 0), .inr (0, [.ref (ad 1), .ref (ad 2), .ref (ad 3), .ref (ad 4), .ref (ad 5), .ref (ad 8), .int dc, .int nw, .double Tm, .double Ac, .double ts, .int gt, .int lt])), ((ad 1), .inl (cA 0, 13, .inr (.inr (.inr (.inl (s8 a rv i)))))), ((ad 2), .inl (cA 1, 8, .inr (.inr (.inr (.inr (fun i => if i < 8 then some (ad (i + 10)) else none)))))), ((ad 3), .inl (cA 2, 8, .inl ib)), ((ad 4), .inl (cA 3, 4, .inr (.inr (.inr (.inl ac))))), ((ad 5), .inr (1, [.ref (ad 6), .ref (ad 7), .int hc, .int hn])), ((ad 6), .inl (cA 4, 32, .inl hs)), ((ad 7), .inl (cA 5, 32, .inr (.inr (.inr (.inl ht))))), ((ad 10), .inl (cA 7, 13, .inr (.inr (.inr (.inl (dv 0)))))), ((ad 11), .inl (cA 7, 13, .inr (.inr (.inr (.inl (dv 1)))))), ((ad 12), .inl (cA 7, 13, .inr (.inr (.inr (.inl (dv 2)))))), ((ad 13), .inl (cA 7, 13, .inr (.inr (.inr (.inl (dv 3)))))), ((ad 14), .inl (cA 7, 13, .inr (.inr (.inr (.inl (dv 4)))))), ((ad 15), .inl (cA 7, 13, .inr (.inr (.inr (.inl (dv 5)))))), ((ad 16), .inl (cA 7, 13, .inr (.inr (.inr (.inl (dv 6)))))), ((ad 17), .inl (cA 7, 13, .inr (.inr (.inr (.inl (dv 7))))))]) (w1 := (wQ (ad 8) (ad 9) (cA 6) rv ra)) ⟨hx, hb, hml, hown, hts⟩ (cQ_decay l dC dI tt _ (ad 8) (ad 9) (cA 6) rv ra i hi) (gT_V tw_m_M_170 tw_i_yQ_decay tw_s_yQ_decay tw_I_Q tw_c_yQ_decay) ⟨rfl, by decide +kernel, by decide +kernel, (by decide +kernel : (parseMethodDescriptor yQ_decay.desc).map (fun d => d.parameters.length) = some 1)⟩ ⟨by decide, by decide⟩ (ci := 2) rfl rfl rfl hP hD hK hS hA hT [8, 9] [0, 1, 2, 3, 4, 5, 6, 7, 10, 11, 12, 13, 14, 15, 16, 17] [6] (by decide) rfl rfl (by decide) (by decide) rfl hl.1 rfl (Nat.le_of_ble_eq_true rfl) dM_decayEnzymes_32 ⟨by decide, by decide⟩ (fun H locs hP hD hS => ?_)
        have hP := hP.sub (ws' := (wM ad cA (s8 a rv i) dv ib ac hs ht hc hn rv ra dc nw Tm Ac ts gt lt)) [0, 1, 2, 3, 4, 5, 6, 7, 16, 17, 8, 9, 10, 11, 12, 13, 14, 15] rfl
        have hD := hD.sub (ws' := (wM ad cA (s8 a rv i) dv ib ac hs ht hc hn rv ra dc nw Tm Ac ts gt lt)) [0, 1, 2, 3, 4, 5, 6, 7, 16, 17, 8, 9, 10, 11, 12, 13, 14, 15] (by decide) rfl
        refine lv_dmul hx hb dM_decayEnzymes_35 ((hok i hi).1) ?_
        refine lv_dsub hx hb dM_decayEnzymes_36 ((hok i hi).2) ?_
        refine ct_dast (k := (9 + i)) (w1 := (wM ad cA (s8 a rv (i + 1)) dv ib ac hs ht hc hn rv ra dc nw Tm Ac ts gt lt)) hx hb hK hP hD hS 1 0 rfl rfl (vp_in_nI (by omega) (by decide)) (nI_clamp (by omega)) (by rw [← s8_s]; rfl) dM_decayEnzymes_37 (fun H locs hP hD hS => ?_)
        refine lv_iinc (v := (nI (i + 1))) (lv' := [(1, .int (nI (i + 1))), (2, .double (a (9 + i))), (0, .ref (ad 0))]) hx hb dM_decayEnzymes_38 hl (k := 1) rfl (nI_1 i) (by decide) rfl (fun ls hl => ?_)
        refine lv_goto (tgt := 2) hx hb dM_decayEnzymes_41 (by decide) ?_
        exact ih (i + 1) ls H locs (by omega) hP hD hS (lv_sub hl [0, 2] rfl)
  refine lv_iconst (v := 0) hx hb dM_decayEnzymes_0 (by decide) ?_
  refine ct_topi (y := nI 0) (rfl) ?_
  refine lv_istore_n (lv' := [(1, .int (nI 0)), (0, .ref (ad 0))]) hx hb dM_decayEnzymes_1 rfl hl (by decide) rfl (fun ls hl => ?_)
  rw [← s8_0 a rv] at hP hD
  exact key 4 0 ls _ _ rfl hP hD hS (lv_sub hl [0, 1] rfl)

set_option maxHeartbeats 4000000 in
set_option maxRecDepth 100000 in
/-- (2) -/
theorem cM_reckonActions (l : Launch) (dC : Nat → ClassId) (dI : Nat → Nat → Nat) (tt : Nat → Nat) (sz : Nat) (ad : Nat → Nat) (cA : Nat → ClassId) (a : Nat → UInt64) (dv : Nat → Nat → UInt64) (ib : Nat → Int32) (ac : Nat → UInt64) (hs : Nat → Int32) (ht : Nat → UInt64) (hc hn : Int32) (rv : Nat → UInt64) (ra : UInt64) (dc nw : Int32) (Tm Ac ts : UInt64) (gt lt : Int32) (hAc : ft_P Ac) (hok : okA a rv Ac) : Ct l dC dI tt yM_reckonActions bM_reckonActions 8 none ({ frames := 1, cells := 0, slots := 0, locals := 22 }) (tM cA) [.ref (ad 0)] (wM ad cA a dv ib ac hs ht hc hn rv ra dc nw Tm Ac ts gt lt) sz (fun A => ctQv dC dI (tM cA) (wM ad cA a dv ib (actA a rv Ac 4 ac) hs ht hc hn rv ra dc nw Tm Ac ts gt lt) A) := by
  refine ct_of (by decide) (Nat.le_of_ble_eq_true rfl) ?_
  intro p e s m below meth c A ls hx hb hr hts hown hml hlocks hnm hA hS hP hK hD hT hl
  have hl : lv_has ls 8 [(0, .ref (ad 0))] := hl
  have key : ∀ (n i : Nat) (ls : Array Slot) (H : Heap) (locs : List Loc), n + i = 4 → va_P (dC, dI) cls (wM ad cA a dv ib (actA a rv Ac i ac) hs ht hc hn rv ra dc nw Tm Ac ts gt lt) H → va_D A (wM ad cA a dv ib (actA a rv Ac i ac) hs ht hc hn rv ra dc nw Tm Ac ts gt lt) → va_S A s.heap H locs → lv_has ls 8 [(5, .int (nI i)), (3, .double (a 0)), (1, .double (fitA Ac)), (0, .ref (ad 0))] → W p l e ({ frames := 1, cells := 0, slots := 0, locals := 22 } : Room) s m ([.ref (ad 0)] : List Value).toArray below meth c H locs 0 0 (MQ below (ctQv dC dI (tM cA) (wM ad cA a dv ib (actA a rv Ac 4 ac) hs ht hc hn rv ra dc nw Tm Ac ts gt lt) A) ([.ref (ad 0)] : List Value).toArray s 0 0 A) (F0 m 15 ls []) := by
    intro n
    induction n with
    | zero =>
      intro i ls H locs hni hP hD hS hl
      refine lv_iload hx hb dM_reckonActions_15 (lv_at hl 0 rfl) ?_
      refine lv_iconst (v := 4) hx hb dM_reckonActions_17 (by decide) ?_
      refine lv_icmp_ge (tgt := 80) hx hb dM_reckonActions_18 (by decide) (fun c_1 => ?_) (fun c_1 => ?_)
      · have hi : i = 4 := by omega
        subst hi
        exact ct_vret hx hb hr hlocks hP hK hD hS dM_reckonActions_80
      · exact absurd (nI_le (a := 4) (b := i) (by omega) (by omega)) c_1
    | succ n ih =>
      intro i ls H locs hni hP hD hS hl
      refine lv_iload hx hb dM_reckonActions_15 (lv_at hl 0 rfl) ?_
      refine lv_iconst (v := 4) hx hb dM_reckonActions_17 (by decide) ?_
      refine lv_icmp_ge (tgt := 80) hx hb dM_reckonActions_18 (by decide) (fun c_2 => ?_) (fun c_2 => ?_)
      · exact absurd ((nI_leI (a := 4) (b := i) (by decide) (by omega)).mp c_2) (by omega)
      · have hi : i < 4 := by omega
        refine lv_aload_n hx hb dM_reckonActions_21 rfl (lv_at hl 3 rfl) ?_
        refine va_get (D := (dC, dI)) (ci := 0) (v := .ref (ad 1)) (C := "MashEnzymes") (T := F_M) (N := 13) hx hb hts in_M hown hK hP 0 rfl rfl 0 (by decide) (hts _ tw_f_M_9) (fun _ h9 => h9) rfl dM_reckonActions_22 ?_
        refine lv_bipush (v := 9) hx hb dM_reckonActions_25 (by decide) ?_
        refine lv_iload hx hb dM_reckonActions_27 (lv_at hl 0 rfl) ?_
        refine lv_iadd hx hb dM_reckonActions_29 ?_
        refine ct_topi (y := nI (9 + i)) (by rw [show (9 : Int32) = nI 9 from rfl, nI_add]) ?_
        refine ct_dald (k := (9 + i)) (v := a (9 + i)) hx hb hK hP 1 0 rfl rfl (vp_in_nI (by omega) (by decide)) (nI_clamp (by omega)) (rfl) dM_reckonActions_30 ?_
        refine lv_aload_n hx hb dM_reckonActions_31 rfl (lv_at hl 3 rfl) ?_
        refine va_get (D := (dC, dI)) (ci := 0) (v := .ref (ad 8)) (C := "MashEnzymes") (T := F_M) (N := 13) hx hb hts in_M hown hK hP 0 rfl rfl 5 (by decide) (hts _ tw_f_M_35) (fun _ h9 => h9) rfl dM_reckonActions_32 ?_
        refine lv_iload hx hb dM_reckonActions_35 (lv_at hl 0 rfl) ?_
        refine ct_cvd (As := [.int (nI i)]) (rest := [.double (a (9 + i))]) (wr := [((ad 0), .inr (0, [.ref (ad 1), .ref (ad 2), .ref (ad 3), .ref (ad 4), .ref (ad 5), .ref (ad 8), .int dc, .int nw, .double Tm, .double Ac, .double ts, .int gt, .int lt])), ((ad 1), .inl (cA 0, 13, .inr (.inr (.inr (.inl a))))), ((ad 2), .inl (cA 1, 8, .inr (.inr (.inr (.inr (fun i => if i < 8 then some (ad (i + 10)) else none)))))), ((ad 3), .inl (cA 2, 8, .inl ib)), ((ad 4), .inl (cA 3, 4, .inr (.inr (.inr (.inl (actA a rv Ac i ac)))))), ((ad 5), .inr (1, [.ref (ad 6), .ref (ad 7), .int hc, .int hn])), ((ad 6), .inl (cA 4, 32, .inl hs)), ((ad 7), .inl (cA 5, 32, .inr (.inr (.inr (.inl ht))))), ((ad 10), .inl (cA 7, 13, .inr (.inr (.inr (.inl (dv 0)))))), ((ad 11), .inl (cA 7, 13, .inr (.inr (.inr (.inl (dv 1)))))), ((ad 12), .inl (cA 7, 13, .inr (.inr (.inr (.inl (dv 2)))))), ((ad 13), .inl (cA 7, 13, .inr (.inr (.inr (.inl (dv 3)))))), ((ad 14), .inl (cA 7, 13, .inr (.inr (.inr (.inl (dv 4)))))), ((ad 15), .inl (cA 7, 13, .inr (.inr (.inr (.inl (dv 5)))))), ((ad 16), .inl (cA 7, 13, .inr (.inr (.inr (.inl (dv 6)))))), ((ad 17), .inl (cA 7, 13, .inr (.inr (.inr (.inl (dv 7))))))]) (w1 := (wQ (ad 8) (ad 9) (cA 6) rv ra)) ⟨hx, hb, hml, hown, hts⟩ (cQ_rate l dC dI tt _ (ad 8) (ad 9) (cA 6) rv ra i hi) (gT_V tw_m_M_143 tw_i_yQ_rate tw_s_yQ_rate tw_I_Q tw_c_yQ_rate) ⟨rfl, by decide +kernel, by decide +kernel, (by decide +kernel : (parseMethodDescriptor yQ_rate.desc).map (fun d => d.parameters.length) = some 1)⟩ ⟨by decide, by decide⟩ (ci := 2) rfl rfl rfl hP hD hK hS hA hT [8, 9] [0, 1, 2, 3, 4, 5, 6, 7, 10, 11, 12, 13, 14, 15, 16, 17] [6] (by decide) rfl rfl (by decide) (by decide) rfl hl.1 rfl (Nat.le_of_ble_eq_true rfl) dM_reckonActions_37 ⟨by decide, by decide⟩ (fun H locs hP hD hS => ?_)
        have hP := hP.sub (ws' := (wM ad cA a dv ib (actA a rv Ac i ac) hs ht hc hn rv ra dc nw Tm Ac ts gt lt)) [0, 1, 2, 3, 4, 5, 6, 7, 16, 17, 8, 9, 10, 11, 12, 13, 14, 15] rfl
        have hD := hD.sub (ws' := (wM ad cA a dv ib (actA a rv Ac i ac) hs ht hc hn rv ra dc nw Tm Ac ts gt lt)) [0, 1, 2, 3, 4, 5, 6, 7, 16, 17, 8, 9, 10, 11, 12, 13, 14, 15] (by decide) rfl
        refine lv_dmul hx hb dM_reckonActions_40 ((hok i hi).1) ?_
        refine lv_dload_n hx hb dM_reckonActions_41 rfl (lv_at hl 2 rfl) ?_
        refine lv_dmul hx hb dM_reckonActions_42 ((hok i hi).2.1) ?_
        refine lv_dstore (lv' := [(6, .double (FP.dmul (FP.dmul (a (9 + i)) (rv i)) (fitA Ac))), (5, .int (nI i)), (3, .double (a 0)), (1, .double (fitA Ac)), (0, .ref (ad 0))]) hx hb dM_reckonActions_43 hl (by decide) rfl (fun ls hl => ?_)
        refine lv_aload_n hx hb dM_reckonActions_45 rfl (lv_at hl 4 rfl) ?_
        refine va_get (D := (dC, dI)) (ci := 0) (v := .ref (ad 4)) (C := "MashEnzymes") (T := F_M) (N := 13) hx hb hts in_M hown hK hP 0 rfl rfl 3 (by decide) (hts _ tw_f_M_22) (fun _ h9 => h9) rfl dM_reckonActions_46 ?_
        refine lv_iload hx hb dM_reckonActions_49 (lv_at hl 1 rfl) ?_
        refine lv_dload hx hb dM_reckonActions_51 (lv_at hl 0 rfl) ?_
        refine lv_dconst0 hx hb dM_reckonActions_53 ?_
        refine ct_topd (y := 0) rfl ?_
        refine lv_dcmp hx hb dM_reckonActions_54 ?_
        refine lv_if_le (tgt := 72) hx hb dM_reckonActions_55 (by decide) (fun c_3 => ?_) (fun c_3 => ?_)
        · have hg : ¬ FP.dcmp (FP.dmul (FP.dmul (a (9 + i)) (rv i)) (fitA Ac)) 0 = some .gt := (cv_l_le _).mp c_3
          have hE : actE a rv Ac i = 0 := by unfold actE actX; exact if_neg hg
          refine lv_dconst0 hx hb dM_reckonActions_72 ?_
          refine ct_topd (y := 0) rfl ?_
          refine ct_dast (k := i) (w1 := (wM ad cA a dv ib (actA a rv Ac (i + 1) ac) hs ht hc hn rv ra dc nw Tm Ac ts gt lt)) hx hb hK hP hD hS 4 3 rfl rfl (vp_in_nI (by omega) (by decide)) (nI_clamp (by omega)) (by rw [← actA_s, hE]; rfl) dM_reckonActions_73 (fun H locs hP hD hS => ?_)
          refine lv_iinc (v := (nI (i + 1))) (lv' := [(5, .int (nI (i + 1))), (6, .double (FP.dmul (FP.dmul (a (9 + i)) (rv i)) (fitA Ac))), (3, .double (a 0)), (1, .double (fitA Ac)), (0, .ref (ad 0))]) hx hb dM_reckonActions_74 hl (k := 1) rfl (nI_1 i) (by decide) rfl (fun ls hl => ?_)
          refine lv_goto (tgt := 15) hx hb dM_reckonActions_77 (by decide) ?_
          exact ih (i + 1) ls H locs (by omega) hP hD hS (lv_sub hl [0, 2, 3, 4] rfl)
        · have hg : FP.dcmp (FP.dmul (FP.dmul (a (9 + i)) (rv i)) (fitA Ac)) 0 = some .gt := Classical.not_not.mp fun h => c_3 ((cv_l_le _).mpr h)
          have hE : actE a rv Ac i = FP.dmul (FP.ddiv (FP.dmul (FP.dmul (a (9 + i)) (rv i)) (fitA Ac)) (FP.dadd (FP.dmul (FP.dmul (a (9 + i)) (rv i)) (fitA Ac)) (a 0))) 4589168020290535424 := by unfold actE actX; exact if_pos hg
          refine lv_dload hx hb dM_reckonActions_58 (lv_at hl 0 rfl) ?_
          refine lv_dload hx hb dM_reckonActions_60 (lv_at hl 0 rfl) ?_
          refine lv_dload_n hx hb dM_reckonActions_62 rfl (lv_at hl 2 rfl) ?_
          refine lv_dadd hx hb dM_reckonActions_63 (((hok i hi).2.2 hg).1) ?_
          refine lv_ddiv hx hb dM_reckonActions_64 (((hok i hi).2.2 hg).2.1) ?_
          refine lv_ldc2d hx hb hown (hts _ tw_d_M_147) dM_reckonActions_65 ?_
          refine lv_dmul hx hb dM_reckonActions_68 (((hok i hi).2.2 hg).2.2) ?_
          refine lv_goto (tgt := 73) hx hb dM_reckonActions_69 (by decide) ?_
          refine ct_dast (k := i) (w1 := (wM ad cA a dv ib (actA a rv Ac (i + 1) ac) hs ht hc hn rv ra dc nw Tm Ac ts gt lt)) hx hb hK hP hD hS 4 3 rfl rfl (vp_in_nI (by omega) (by decide)) (nI_clamp (by omega)) (by rw [← actA_s, hE]; rfl) dM_reckonActions_73 (fun H locs hP hD hS => ?_)
          refine lv_iinc (v := (nI (i + 1))) (lv' := [(5, .int (nI (i + 1))), (6, .double (FP.dmul (FP.dmul (a (9 + i)) (rv i)) (fitA Ac))), (3, .double (a 0)), (1, .double (fitA Ac)), (0, .ref (ad 0))]) hx hb dM_reckonActions_74 hl (k := 1) rfl (nI_1 i) (by decide) rfl (fun ls hl => ?_)
          refine lv_goto (tgt := 15) hx hb dM_reckonActions_77 (by decide) ?_
          exact ih (i + 1) ls H locs (by omega) hP hD hS (lv_sub hl [0, 2, 3, 4] rfl)
  refine lv_aload_n hx hb dM_reckonActions_0 rfl (lv_at hl 0 rfl) ?_
  refine ct_cvd (As := []) (rest := []) (wr := []) (w1 := (wM ad cA a dv ib ac hs ht hc hn rv ra dc nw Tm Ac ts gt lt)) ⟨hx, hb, hml, hown, hts⟩ (cM_acidityFitness l dC dI tt _ ad cA a dv ib ac hs ht hc hn rv ra dc nw Tm Ac ts gt lt hAc) (gT_V tw_m_M_140 tw_i_yM_acidityFitness tw_s_yM_acidityFitness tw_I_M tw_c_yM_acidityFitness) ⟨rfl, by decide +kernel, by decide +kernel, (by decide +kernel : (parseMethodDescriptor yM_acidityFitness.desc).map (fun d => d.parameters.length) = some 0)⟩ ⟨by decide, by decide⟩ (ci := 0) rfl rfl rfl hP hD hK hS hA hT [0, 1, 2, 3, 4, 5, 6, 7, 8, 9, 10, 11, 12, 13, 14, 15, 16, 17] [] [0, 1, 2, 3, 4, 5, 6, 7] (by decide) rfl rfl (by decide) (by decide) rfl hl.1 rfl (Nat.le_of_ble_eq_true rfl) dM_reckonActions_1 ⟨by decide, by decide⟩ (fun H locs hP hD hS => ?_)
  have hP : va_P (dC, dI) cls (wM ad cA a dv ib ac hs ht hc hn rv ra dc nw Tm Ac ts gt lt) H := hP
  have hD : va_D A (wM ad cA a dv ib ac hs ht hc hn rv ra dc nw Tm Ac ts gt lt) := hD
  refine lv_dstore_n (lv' := [(1, .double (fitA Ac)), (0, .ref (ad 0))]) hx hb dM_reckonActions_4 rfl hl (by decide) rfl (fun ls hl => ?_)
  refine lv_aload_n hx hb dM_reckonActions_5 rfl (lv_at hl 1 rfl) ?_
  refine va_get (D := (dC, dI)) (ci := 0) (v := .ref (ad 1)) (C := "MashEnzymes") (T := F_M) (N := 13) hx hb hts in_M hown hK hP 0 rfl rfl 0 (by decide) (hts _ tw_f_M_9) (fun _ h9 => h9) rfl dM_reckonActions_6 ?_
  refine lv_iconst (v := 0) hx hb dM_reckonActions_9 (by decide) ?_
  refine ct_dald (k := 0) (v := a 0) hx hb hK hP 1 0 rfl rfl (by unfold vp_in; decide) (rfl) (rfl) dM_reckonActions_10 ?_
  refine lv_dstore_n (lv' := [(3, .double (a 0)), (1, .double (fitA Ac)), (0, .ref (ad 0))]) hx hb dM_reckonActions_11 rfl hl (by decide) rfl (fun ls hl => ?_)
  refine lv_iconst (v := 0) hx hb dM_reckonActions_12 (by decide) ?_
  refine ct_topi (y := nI 0) (rfl) ?_
  refine lv_istore (lv' := [(5, .int (nI 0)), (3, .double (a 0)), (1, .double (fitA Ac)), (0, .ref (ad 0))]) hx hb dM_reckonActions_13 hl (by decide) rfl (fun ls hl => ?_)
  rw [← actA_0 a rv Ac ac] at hP hD
  exact key 4 0 ls _ _ rfl hP hD hS (lv_sub hl [0, 1, 2, 3] rfl)

