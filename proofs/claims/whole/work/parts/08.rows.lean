theorem ft_bits {a : UInt64} (h : ft_P a) : a.toNat < 2 ^ 63 := by
  obtain ⟨c, q, e⟩ := h
  have h1 := FP.Core.sign_bits (a := a) (s := false) (Or.inl ⟨c, q, e⟩)
  refine Nat.lt_of_not_le fun h2 => ?_
  have := h1.mpr h2
  cases this
theorem ft_inj {a b : UInt64} (ha : ft_P a) (hb : ft_P b) (h : FP.dcmp a b = some .eq) : a = b :=
  UInt64.toNat.inj ((FP.Core.mono_bits ha.fin.ne_nan hb.fin.ne_nan (ft_bits ha) (ft_bits hb)).2.1.mp h)
theorem ft_some {a b : UInt64} (ha : ft_P a) (hb : ft_P b) : FP.dcmp a b ≠ none := by rw [ft_cmp ha hb]; intro h; cases h
/-- dcmpg and ifgt between two numbers -/
theorem ft_g {a b : UInt64} (ha : ft_P a) (hb : ft_P b) : 0 < Op.cmpValue (FP.dcmp a b) .g ↔ FP.dcmp a b = some .gt := by
  rw [cv_g_gt]
  have := ft_some ha hb
  constructor
  · rintro (h | h)
    · exact h
    · exact absurd h this
  · exact Or.inl
theorem mk_first {T : UInt64} (hT : ft_P T) : ¬ 0 < Op.cmpValue (FP.dcmp (FP.i2d (nI (tb_MD 0))) T) .g := by
  rw [ft_g (md_P (by decide)) hT, ft_gt (md_P (by decide)) hT, md0z]
  exact Nat.not_lt_zero _
theorem rwA_same {ra : UInt64} {rv : Nat → UInt64} (h : ∀ k, k < 9 → rv k = rwv ra k (mk ra)) : rwA ra 9 rv = rv := funext fun k => by
  unfold rwA
  split
  · rename_i h1
    exact (h k h1).symm
  · rfl
theorem nI_mk (T : UInt64) : mk T < 2 ^ 31 := Nat.lt_of_le_of_lt (mk_le T) (by decide)
set_option maxHeartbeats 4000000 in
set_option maxRecDepth 100000 in
/-- a table's value -/
theorem cQ_atMark (l : Launch) (dC : Nat → ClassId) (dI : Nat → Nat → Nat) (tt : Nat → Nat) (sz : Nat) (r j : Nat) (hr9 : r < 9) (hj9 : j < 9) : Ct l dC dI tt yQ_atMark bQ_atMark 2 (some .double) ({ frames := 0, cells := 0, slots := 0, locals := 0 }) [] [.int (nI r), .int (nI j)] [] sz (fun A => ctQd dC dI [] (tv r j) [] A) := by
  refine ct_of (by decide) (Nat.le_of_ble_eq_true rfl) ?_
  intro p e s m below meth c A ls hx hb hr hts hown hml hlocks hnm hA hS hP hK hD hT hl
  have hl : lv_has ls 2 [(0, .int (nI r)), (1, .int (nI j))] := hl
  refine va_gets hx hb hT.2.2.2.1.1 hS hown (hts _ tw_f_Q_40) (fun _ h9 => h9) dQ_atMark_0 ?_
  refine lv_iload_n hx hb dQ_atMark_3 rfl (lv_at hl 0 rfl) ?_
  refine lv_bipush (v := 9) hx hb dQ_atMark_4 (by decide) ?_
  refine lv_imul hx hb dQ_atMark_6 ?_
  refine lv_iload_n hx hb dQ_atMark_7 rfl (lv_at hl 1 rfl) ?_
  refine lv_iadd hx hb dQ_atMark_8 ?_
  refine ct_topi (y := nI (r * 9 + j)) (by rw [show (9 : Int32) = nI 9 from rfl, pk_mul, nI_add]) ?_
  refine ct_tab (k := (r * 9 + j)) (v := nI (tb_TB (r * 9 + j))) hx hb hT.2.2.2.1 hS (vp_in_nI (by omega) (by decide)) (nI_clamp (by omega)) (rfl) dQ_atMark_9 ?_
  refine lv_i2d hx hb dQ_atMark_10 ?_
  refine lv_iload_n hx hb dQ_atMark_11 rfl (lv_at hl 0 rfl) ?_
  refine lv_iconst (v := 4) hx hb dQ_atMark_12 (by decide) ?_
  refine lv_icmp_ge (tgt := 22) hx hb dQ_atMark_13 (by decide) (fun c_1 => ?_) (fun c_1 => ?_)
  · have h4 : ¬ r < 4 := fun h => by have := (nI_leI (a := 4) (b := r) (by decide) (by omega)).mp c_1; omega
    have ht : tv r j = FP.ddiv (FP.i2d (nI (tb_TB (r * 9 + j)))) 4661225614328463360 := by unfold tv; rw [if_neg h4]
    refine lv_ldc2d hx hb hown (hts _ tw_d_Q_45) dQ_atMark_22 ?_
    refine lv_ddiv hx hb dQ_atMark_25 (by rw [← ht]; exact (tv_P hr9 hj9).n) ?_
    exact ct_dret hx hb hr hlocks hP hK hD hS (ht.symm) dQ_atMark_26
  · have h4 : r < 4 := Nat.lt_of_not_le fun h => c_1 ((nI_leI (a := 4) (b := r) (by decide) (by omega)).mpr h)
    have ht : tv r j = FP.ddiv (FP.i2d (nI (tb_TB (r * 9 + j)))) 4620693217682128896 := by unfold tv; rw [if_pos h4]
    refine lv_ldc2d hx hb hown (hts _ tw_d_Q_43) dQ_atMark_16 ?_
    refine lv_goto (tgt := 25) hx hb dQ_atMark_19 (by decide) ?_
    refine lv_ddiv hx hb dQ_atMark_25 (by rw [← ht]; exact (tv_P hr9 hj9).n) ?_
    exact ct_dret hx hb hr hlocks hP hK hD hS (ht.symm) dQ_atMark_26

set_option maxHeartbeats 4000000 in
set_option maxRecDepth 100000 in
/-- between two marks -/
theorem cQ_between (l : Launch) (dC : Nat → ClassId) (dI : Nat → Nat → Nat) (tt : Nat → Nat) (sz : Nat) (q0 q1 : Nat) (cq : ClassId) (rv : Nat → UInt64) (ra : UInt64) (r : Nat) (hr9 : r < 9) (hra : ft_P ra) (hj8 : mk ra < 8) : Ct l dC dI tt yQ_between bQ_between 9 (some .double) ({ frames := 1, cells := 0, slots := 0, locals := 21 }) (tQ cq) [.ref q0, .int (nI r), .int (nI (mk ra))] (wQ q0 q1 cq rv ra) sz (fun A => ctQd dC dI (tQ cq) (rwv ra r (mk ra)) (wQ q0 q1 cq rv ra) A) := by
  refine ct_of (by decide) (Nat.le_of_ble_eq_true rfl) ?_
  intro p e s m below meth c A ls hx hb hr hts hown hml hlocks hnm hA hS hP hK hD hT hl
  have hl : lv_has ls 9 [(0, .ref q0), (1, .int (nI r)), (2, .int (nI (mk ra)))] := hl
  have hok := rw_ok hra hr9 hj8
  refine lv_iload_n hx hb dQ_between_0 rfl (lv_at hl 1 rfl) ?_
  refine lv_iload_n hx hb dQ_between_1 rfl (lv_at hl 2 rfl) ?_
  refine ct_csd (As := [.int (nI r), .int (nI (mk ra))]) (rest := []) (wr := (wQ q0 q1 cq rv ra)) ⟨hx, hb, hml, hown, hts⟩ (cQ_atMark l dC dI tt _ r (mk ra) hr9 (by omega)) (gT_S tw_m_Q_30 tw_st_yQ_atMark tw_I_Q tw_c_yQ_atMark) ⟨by decide +kernel, by decide +kernel, (by decide +kernel : (parseMethodDescriptor yQ_atMark.desc).map (fun d => d.parameters.length) = some 2)⟩ ⟨by decide, by decide⟩ hP hD hK hS hA hT [0, 1] rfl (by decide) hl.1 rfl (Nat.le_of_ble_eq_true rfl) dQ_between_2 ⟨by decide, by decide⟩ (fun H locs hP hD hS => ?_)
  refine lv_dstore_n (lv' := [(3, .double (tv r (mk ra))), (0, .ref q0), (1, .int (nI r)), (2, .int (nI (mk ra)))]) hx hb dQ_between_5 rfl hl (by decide) rfl (fun ls hl => ?_)
  refine lv_iload_n hx hb dQ_between_6 rfl (lv_at hl 2 rfl) ?_
  refine lv_iload_n hx hb dQ_between_7 rfl (lv_at hl 3 rfl) ?_
  refine lv_iconst (v := 1) hx hb dQ_between_8 (by decide) ?_
  refine lv_iadd hx hb dQ_between_9 ?_
  refine ct_topi (y := nI (mk ra + 1)) (nI_1 _) ?_
  refine ct_csd (As := [.int (nI r), .int (nI (mk ra + 1))]) (rest := []) (wr := (wQ q0 q1 cq rv ra)) ⟨hx, hb, hml, hown, hts⟩ (cQ_atMark l dC dI tt _ r (mk ra + 1) hr9 (by omega)) (gT_S tw_m_Q_30 tw_st_yQ_atMark tw_I_Q tw_c_yQ_atMark) ⟨by decide +kernel, by decide +kernel, (by decide +kernel : (parseMethodDescriptor yQ_atMark.desc).map (fun d => d.parameters.length) = some 2)⟩ ⟨by decide, by decide⟩ hP hD hK hS hA hT [0, 1] rfl (by decide) hl.1 rfl (Nat.le_of_ble_eq_true rfl) dQ_between_10 ⟨by decide, by decide⟩ (fun H locs hP hD hS => ?_)
  refine lv_dstore (lv' := [(5, .double (tv r (mk ra + 1))), (3, .double (tv r (mk ra))), (0, .ref q0), (1, .int (nI r)), (2, .int (nI (mk ra)))]) hx hb dQ_between_13 hl (by decide) rfl (fun ls hl => ?_)
  refine va_gets hx hb hT.2.2.1.1 hS hown (hts _ tw_f_Q_36) (fun _ h9 => h9) dQ_between_15 ?_
  refine lv_iload_n hx hb dQ_between_18 rfl (lv_at hl 4 rfl) ?_
  refine ct_tab (k := (mk ra)) (v := nI (tb_MD (mk ra))) hx hb hT.2.2.1 hS (vp_in_nI (by omega) (by decide)) (nI_clamp (nI_mk ra)) (rfl) dQ_between_19 ?_
  refine lv_istore (lv' := [(7, .int (nI (tb_MD (mk ra)))), (5, .double (tv r (mk ra + 1))), (3, .double (tv r (mk ra))), (0, .ref q0), (1, .int (nI r)), (2, .int (nI (mk ra)))]) hx hb dQ_between_20 hl (by decide) rfl (fun ls hl => ?_)
  refine va_gets hx hb hT.2.2.1.1 hS hown (hts _ tw_f_Q_36) (fun _ h9 => h9) dQ_between_22 ?_
  refine lv_iload_n hx hb dQ_between_25 rfl (lv_at hl 5 rfl) ?_
  refine lv_iconst (v := 1) hx hb dQ_between_26 (by decide) ?_
  refine lv_iadd hx hb dQ_between_27 ?_
  refine ct_topi (y := nI (mk ra + 1)) (nI_1 _) ?_
  refine ct_tab (k := (mk ra + 1)) (v := nI (tb_MD (mk ra + 1))) hx hb hT.2.2.1 hS (vp_in_nI (by omega) (by decide)) (nI_clamp (by omega)) (rfl) dQ_between_28 ?_
  refine lv_istore (lv' := [(8, .int (nI (tb_MD (mk ra + 1)))), (7, .int (nI (tb_MD (mk ra)))), (5, .double (tv r (mk ra + 1))), (3, .double (tv r (mk ra))), (0, .ref q0), (1, .int (nI r)), (2, .int (nI (mk ra)))]) hx hb dQ_between_29 hl (by decide) rfl (fun ls hl => ?_)
  refine lv_dload_n hx hb dQ_between_31 rfl (lv_at hl 3 rfl) ?_
  refine lv_dload hx hb dQ_between_32 (lv_at hl 2 rfl) ?_
  refine lv_dload_n hx hb dQ_between_34 rfl (lv_at hl 3 rfl) ?_
  refine lv_dsub hx hb dQ_between_35 (hok.1) ?_
  refine lv_aload_n hx hb dQ_between_36 rfl (lv_at hl 4 rfl) ?_
  refine va_get (D := (dC, dI)) (ci := 2) (v := .double ra) (C := "MashEnzymes$Rows") (T := F_Q) (N := 2) hx hb hts in_Q hown hK hP 0 rfl rfl 1 (by decide) (hts _ tw_f_Q_18) (fun _ h9 => h9) rfl dQ_between_37 ?_
  refine lv_iload hx hb dQ_between_40 (lv_at hl 1 rfl) ?_
  refine lv_i2d hx hb dQ_between_42 ?_
  refine lv_dsub hx hb dQ_between_43 (hok.2.1) ?_
  refine lv_dmul hx hb dQ_between_44 (hok.2.2.1) ?_
  refine lv_iload hx hb dQ_between_45 (lv_at hl 0 rfl) ?_
  refine lv_iload hx hb dQ_between_47 (lv_at hl 1 rfl) ?_
  refine lv_isub hx hb dQ_between_49 ?_
  refine lv_i2d hx hb dQ_between_50 ?_
  refine lv_ddiv hx hb dQ_between_51 (hok.2.2.2.1) ?_
  refine lv_dadd hx hb dQ_between_52 (hok.2.2.2.2.1.n) ?_
  exact ct_dret hx hb hr hlocks hP hK hD hS (by unfold rwv; rw [if_pos hj8]) dQ_between_53

set_option maxHeartbeats 4000000 in
set_option maxRecDepth 100000 in
/-- a row at the rows' temperature -/
theorem cQ_valueFrom (l : Launch) (dC : Nat → ClassId) (dI : Nat → Nat → Nat) (tt : Nat → Nat) (sz : Nat) (q0 q1 : Nat) (cq : ClassId) (rv : Nat → UInt64) (ra : UInt64) (r : Nat) (hr9 : r < 9) (hra : ft_P ra) : Ct l dC dI tt yQ_valueFrom bQ_valueFrom 3 (some .double) ({ frames := 2, cells := 0, slots := 0, locals := 49 }) (tQ cq) [.ref q0, .int (nI r), .int (nI (mk ra))] (wQ q0 q1 cq rv ra) sz (fun A => ctQd dC dI (tQ cq) (rwv ra r (mk ra)) (wQ q0 q1 cq rv ra) A) := by
  refine ct_of (by decide) (Nat.le_of_ble_eq_true rfl) ?_
  intro p e s m below meth c A ls hx hb hr hts hown hml hlocks hnm hA hS hP hK hD hT hl
  have hl : lv_has ls 3 [(0, .ref q0), (1, .int (nI r)), (2, .int (nI (mk ra)))] := hl
  refine lv_iload_n hx hb dQ_valueFrom_0 rfl (lv_at hl 2 rfl) ?_
  refine lv_if_ge (tgt := 10) hx hb dQ_valueFrom_1 (by decide) (fun c_1 => ?_) (fun c_1 => ?_)
  · refine lv_iload_n hx hb dQ_valueFrom_10 rfl (lv_at hl 2 rfl) ?_
    refine lv_bipush (v := 8) hx hb dQ_valueFrom_11 (by decide) ?_
    refine lv_icmp_ge (tgt := 25) hx hb dQ_valueFrom_13 (by decide) (fun c_2 => ?_) (fun c_2 => ?_)
    · have hm : ¬ mk ra < 8 := fun h => by have := (nI_leI (a := 8) (b := mk ra) (by decide) (nI_mk ra)).mp c_2; omega
      refine lv_iload_n hx hb dQ_valueFrom_25 rfl (lv_at hl 1 rfl) ?_
      refine lv_bipush (v := 8) hx hb dQ_valueFrom_26 (by decide) ?_
      refine ct_csd (As := [.int (nI r), .int 8]) (rest := []) (wr := (wQ q0 q1 cq rv ra)) ⟨hx, hb, hml, hown, hts⟩ (cQ_atMark l dC dI tt _ r 8 hr9 (by decide)) (gT_S tw_m_Q_30 tw_st_yQ_atMark tw_I_Q tw_c_yQ_atMark) ⟨by decide +kernel, by decide +kernel, (by decide +kernel : (parseMethodDescriptor yQ_atMark.desc).map (fun d => d.parameters.length) = some 2)⟩ ⟨by decide, by decide⟩ hP hD hK hS hA hT [0, 1] rfl (by decide) hl.1 rfl (Nat.le_of_ble_eq_true rfl) dQ_valueFrom_28 ⟨by decide, by decide⟩ (fun H locs hP hD hS => ?_)
      exact ct_dret hx hb hr hlocks hP hK hD hS (by unfold rwv; rw [if_neg hm]) dQ_valueFrom_31
    · have hm : mk ra < 8 := Nat.lt_of_not_le fun h => c_2 ((nI_leI (a := 8) (b := mk ra) (by decide) (nI_mk ra)).mpr h)
      refine lv_aload_n hx hb dQ_valueFrom_16 rfl (lv_at hl 0 rfl) ?_
      refine lv_iload_n hx hb dQ_valueFrom_17 rfl (lv_at hl 1 rfl) ?_
      refine lv_iload_n hx hb dQ_valueFrom_18 rfl (lv_at hl 2 rfl) ?_
      refine ct_cvd (As := [.int (nI r), .int (nI (mk ra))]) (rest := []) (wr := []) (w1 := (wQ q0 q1 cq rv ra)) ⟨hx, hb, hml, hown, hts⟩ (cQ_between l dC dI tt _ q0 q1 cq rv ra r hr9 hra hm) (gT_V tw_m_Q_33 tw_i_yQ_between tw_s_yQ_between tw_I_Q tw_c_yQ_between) ⟨rfl, by decide +kernel, by decide +kernel, (by decide +kernel : (parseMethodDescriptor yQ_between.desc).map (fun d => d.parameters.length) = some 2)⟩ ⟨by decide, by decide⟩ (ci := 2) rfl rfl rfl hP hD hK hS hA hT [0, 1] [] [0] (by decide) rfl rfl (by decide) (by decide) rfl hl.1 rfl (Nat.le_of_ble_eq_true rfl) dQ_valueFrom_19 ⟨by decide, by decide⟩ (fun H locs hP hD hS => ?_)
      have hP : va_P (dC, dI) cls (wQ q0 q1 cq rv ra) H := hP
      have hD : va_D A (wQ q0 q1 cq rv ra) := hD
      refine lv_goto (tgt := 31) hx hb dQ_valueFrom_22 (by decide) ?_
      exact ct_dret hx hb hr hlocks hP hK hD hS (rfl) dQ_valueFrom_31
  · exact absurd (nI_pos' (nI_mk ra)) c_1

set_option maxHeartbeats 4000000 in
set_option maxRecDepth 100000 in
/-- the mark -/
theorem cQ_markNotAbove (l : Launch) (dC : Nat → ClassId) (dI : Nat → Nat → Nat) (tt : Nat → Nat) (sz : Nat) (q0 q1 : Nat) (cq : ClassId) (rv : Nat → UInt64) (ra : UInt64) (hra : ft_P ra) : Ct l dC dI tt yQ_markNotAbove bQ_markNotAbove 2 (some .int) ({ frames := 0, cells := 0, slots := 0, locals := 0 }) (tQ cq) [.ref q0] (wQ q0 q1 cq rv ra) sz (fun A => ctQi dC dI (tQ cq) (nI (mk ra)) (wQ q0 q1 cq rv ra) A) := by
  refine ct_of (by decide) (Nat.le_of_ble_eq_true rfl) ?_
  intro p e s m below meth c A ls hx hb hr hts hown hml hlocks hnm hA hS hP hK hD hT hl
  have hl : lv_has ls 2 [(0, .ref q0)] := hl
  have key : ∀ (n j : Nat) (ls : Array Slot), n + j = 8 → mkN ra n j = mk ra → lv_has ls 2 [(1, .int (nI j)), (0, .ref q0)] → W p l e ({ frames := 0, cells := 0, slots := 0, locals := 0 } : Room) s m ([.ref q0] : List Value).toArray below meth c s.heap [] 0 0 (MQ below (ctQi dC dI (tQ cq) (nI (mk ra)) (wQ q0 q1 cq rv ra) A) ([.ref q0] : List Value).toArray s 0 0 A) (F0 m 2 ls []) := by
    intro n
    induction n with
    | zero =>
      intro j ls hn hm hl
      have hj : j = 8 := by omega
      refine lv_iload_n hx hb dQ_markNotAbove_2 rfl (lv_at hl 0 rfl) ?_
      refine lv_bipush (v := 8) hx hb dQ_markNotAbove_3 (by decide) ?_
      refine lv_icmp_ge (tgt := 31) hx hb dQ_markNotAbove_5 (by decide) (fun c_1 => ?_) (fun c_1 => ?_)
      · have hmj : j = mk ra := hm
        refine lv_iload_n hx hb dQ_markNotAbove_31 rfl (lv_at hl 0 rfl) ?_
        exact ct_iret hx hb hr rfl hlocks hP hK hD hS (by rw [hmj]) dQ_markNotAbove_32
      · exact absurd (nI_le (a := 8) (b := j) (by omega) (by omega)) c_1
    | succ n ih =>
      intro j ls hn hm hl
      have hj : j < 8 := by omega
      refine lv_iload_n hx hb dQ_markNotAbove_2 rfl (lv_at hl 0 rfl) ?_
      refine lv_bipush (v := 8) hx hb dQ_markNotAbove_3 (by decide) ?_
      refine lv_icmp_ge (tgt := 31) hx hb dQ_markNotAbove_5 (by decide) (fun c_2 => ?_) (fun c_2 => ?_)
      · exact absurd ((nI_leI (a := 8) (b := j) (by decide) (by omega)).mp c_2) (by omega)
      · refine va_gets hx hb hT.2.2.1.1 hS hown (hts _ tw_f_Q_36) (fun _ h9 => h9) dQ_markNotAbove_8 ?_
        refine lv_iload_n hx hb dQ_markNotAbove_11 rfl (lv_at hl 0 rfl) ?_
        refine lv_iconst (v := 1) hx hb dQ_markNotAbove_12 (by decide) ?_
        refine lv_iadd hx hb dQ_markNotAbove_13 ?_
        refine ct_topi (y := nI (j + 1)) (nI_1 j) ?_
        refine ct_tab (k := (j + 1)) (v := nI (tb_MD (j + 1))) hx hb hT.2.2.1 hS (vp_in_nI (by omega) (by decide)) (nI_clamp (by omega)) (rfl) dQ_markNotAbove_14 ?_
        refine lv_i2d hx hb dQ_markNotAbove_15 ?_
        refine lv_aload_n hx hb dQ_markNotAbove_16 rfl (lv_at hl 1 rfl) ?_
        refine va_get (D := (dC, dI)) (ci := 2) (v := .double ra) (C := "MashEnzymes$Rows") (T := F_Q) (N := 2) hx hb hts in_Q hown hK hP 0 rfl rfl 1 (by decide) (hts _ tw_f_Q_18) (fun _ h9 => h9) rfl dQ_markNotAbove_17 ?_
        refine lv_dcmp hx hb dQ_markNotAbove_20 ?_
        refine lv_if_gt (tgt := 31) hx hb dQ_markNotAbove_21 (by decide) (fun c_3 => ?_) (fun c_3 => ?_)
        · have hg := (ft_g (md_P (by omega)) hra).mp c_3
          have hmj : j = mk ra := by unfold mkN at hm; rw [if_pos hg] at hm; exact hm
          refine lv_iload_n hx hb dQ_markNotAbove_31 rfl (lv_at hl 0 rfl) ?_
          exact ct_iret hx hb hr rfl hlocks hP hK hD hS (by rw [hmj]) dQ_markNotAbove_32
        · have hg : ¬ FP.dcmp (FP.i2d (nI (tb_MD (j + 1)))) ra = some .gt := fun h => c_3 ((ft_g (md_P (by omega)) hra).mpr h)
          unfold mkN at hm
          rw [if_neg hg] at hm
          refine lv_iload_n hx hb dQ_markNotAbove_24 rfl (lv_at hl 0 rfl) ?_
          refine lv_iconst (v := 1) hx hb dQ_markNotAbove_25 (by decide) ?_
          refine lv_iadd hx hb dQ_markNotAbove_26 ?_
          refine ct_topi (y := nI (j + 1)) (nI_1 j) ?_
          refine lv_istore_n (lv' := [(1, .int (nI (j + 1))), (0, .ref q0)]) hx hb dQ_markNotAbove_27 rfl hl (by decide) rfl (fun ls hl => ?_)
          refine lv_goto (tgt := 2) hx hb dQ_markNotAbove_28 (by decide) ?_
          exact ih (j + 1) ls (by omega) hm hl
  refine lv_iconst (v := (-1)) hx hb dQ_markNotAbove_0 (by decide) ?_
  refine lv_istore_n (lv' := [(1, .int (-1)), (0, .ref q0)]) hx hb dQ_markNotAbove_1 rfl hl (by decide) rfl (fun ls hl => ?_)
  refine lv_iload_n hx hb dQ_markNotAbove_2 rfl (lv_at hl 0 rfl) ?_
  refine lv_bipush (v := 8) hx hb dQ_markNotAbove_3 (by decide) ?_
  refine lv_icmp_ge (tgt := 31) hx hb dQ_markNotAbove_5 (by decide) (fun c_4 => ?_) (fun c_4 => ?_)
  · exact absurd c_4 (by decide)
  · refine va_gets hx hb hT.2.2.1.1 hS hown (hts _ tw_f_Q_36) (fun _ h9 => h9) dQ_markNotAbove_8 ?_
    refine lv_iload_n hx hb dQ_markNotAbove_11 rfl (lv_at hl 0 rfl) ?_
    refine lv_iconst (v := 1) hx hb dQ_markNotAbove_12 (by decide) ?_
    refine lv_iadd hx hb dQ_markNotAbove_13 ?_
    refine ct_topi (y := 0) (by decide) ?_
    refine ct_tab (k := 0) (v := nI (tb_MD 0)) hx hb hT.2.2.1 hS (by unfold vp_in; decide) (rfl) (rfl) dQ_markNotAbove_14 ?_
    refine lv_i2d hx hb dQ_markNotAbove_15 ?_
    refine lv_aload_n hx hb dQ_markNotAbove_16 rfl (lv_at hl 1 rfl) ?_
    refine va_get (D := (dC, dI)) (ci := 2) (v := .double ra) (C := "MashEnzymes$Rows") (T := F_Q) (N := 2) hx hb hts in_Q hown hK hP 0 rfl rfl 1 (by decide) (hts _ tw_f_Q_18) (fun _ h9 => h9) rfl dQ_markNotAbove_17 ?_
    refine lv_dcmp hx hb dQ_markNotAbove_20 ?_
    refine lv_if_gt (tgt := 31) hx hb dQ_markNotAbove_21 (by decide) (fun c_5 => ?_) (fun c_5 => ?_)
    · exact absurd c_5 (mk_first hra)
    · refine lv_iload_n hx hb dQ_markNotAbove_24 rfl (lv_at hl 0 rfl) ?_
      refine lv_iconst (v := 1) hx hb dQ_markNotAbove_25 (by decide) ?_
      refine lv_iadd hx hb dQ_markNotAbove_26 ?_
      refine ct_topi (y := nI 0) (by decide) ?_
      refine lv_istore_n (lv' := [(1, .int (nI 0)), (0, .ref q0)]) hx hb dQ_markNotAbove_27 rfl hl (by decide) rfl (fun ls hl => ?_)
      refine lv_goto (tgt := 2) hx hb dQ_markNotAbove_28 (by decide) ?_
      exact key 8 0 ls rfl rfl hl

set_option maxHeartbeats 4000000 in
set_option maxRecDepth 100000 in
/-- all rows anew -/
theorem cQ_reckonValues (l : Launch) (dC : Nat → ClassId) (dI : Nat → Nat → Nat) (tt : Nat → Nat) (sz : Nat) (q0 q1 : Nat) (cq : ClassId) (rv : Nat → UInt64) (ra : UInt64) (hra : ft_P ra) : Ct l dC dI tt yQ_reckonValues bQ_reckonValues 3 none ({ frames := 3, cells := 0, slots := 0, locals := 71 }) (tQ cq) [.ref q0] (wQ q0 q1 cq rv ra) sz (fun A => ctQv dC dI (tQ cq) (wQ q0 q1 cq (rwA ra 9 rv) ra) A) := by
  refine ct_of (by decide) (Nat.le_of_ble_eq_true rfl) ?_
  intro p e s m below meth c A ls hx hb hr hts hown hml hlocks hnm hA hS hP hK hD hT hl
  have hl : lv_has ls 3 [(0, .ref q0)] := hl
  have key : ∀ (n i : Nat) (ls : Array Slot) (H : Heap) (locs : List Loc), n + i = 9 → va_P (dC, dI) cls (wQ q0 q1 cq (rwA ra i rv) ra) H → va_D A (wQ q0 q1 cq (rwA ra i rv) ra) → va_S A s.heap H locs → lv_has ls 3 [(2, .int (nI i)), (1, .int (nI (mk ra))), (0, .ref q0)] → W p l e ({ frames := 3, cells := 0, slots := 0, locals := 71 } : Room) s m ([.ref q0] : List Value).toArray below meth c H locs 0 0 (MQ below (ctQv dC dI (tQ cq) (wQ q0 q1 cq (rwA ra 9 rv) ra) A) ([.ref q0] : List Value).toArray s 0 0 A) (F0 m 7 ls []) := by
    intro n
    induction n with
    | zero =>
      intro i ls H locs hn hP hD hS hl
      refine lv_iload_n hx hb dQ_reckonValues_7 rfl (lv_at hl 0 rfl) ?_
      refine lv_bipush (v := 9) hx hb dQ_reckonValues_8 (by decide) ?_
      refine lv_icmp_ge (tgt := 31) hx hb dQ_reckonValues_10 (by decide) (fun c_1 => ?_) (fun c_1 => ?_)
      · have hi : i = 9 := by omega
        subst hi
        exact ct_vret hx hb hr hlocks hP hK hD hS dQ_reckonValues_31
      · exact absurd (nI_le (a := 9) (b := i) (by omega) (by omega)) c_1
    | succ n ih =>
      intro i ls H locs hn hP hD hS hl
      refine lv_iload_n hx hb dQ_reckonValues_7 rfl (lv_at hl 0 rfl) ?_
      refine lv_bipush (v := 9) hx hb dQ_reckonValues_8 (by decide) ?_
      refine lv_icmp_ge (tgt := 31) hx hb dQ_reckonValues_10 (by decide) (fun c_2 => ?_) (fun c_2 => ?_)
      · exact absurd ((nI_leI (a := 9) (b := i) (by decide) (by omega)).mp c_2) (by omega)
      · refine lv_aload_n hx hb dQ_reckonValues_13 rfl (lv_at hl 2 rfl) ?_
        refine va_get (D := (dC, dI)) (ci := 2) (v := .ref q1) (C := "MashEnzymes$Rows") (T := F_Q) (N := 2) hx hb hts in_Q hown hK hP 0 rfl rfl 0 (by decide) (hts _ tw_f_Q_11) (fun _ h9 => h9) rfl dQ_reckonValues_14 ?_
        refine lv_iload_n hx hb dQ_reckonValues_17 rfl (lv_at hl 0 rfl) ?_
        refine lv_aload_n hx hb dQ_reckonValues_18 rfl (lv_at hl 2 rfl) ?_
        refine lv_iload_n hx hb dQ_reckonValues_19 rfl (lv_at hl 0 rfl) ?_
        refine lv_iload_n hx hb dQ_reckonValues_20 rfl (lv_at hl 1 rfl) ?_
        refine ct_cvd (As := [.int (nI i), .int (nI (mk ra))]) (rest := [.int (nI i), .ref q1]) (wr := []) (w1 := (wQ q0 q1 cq (rwA ra i rv) ra)) ⟨hx, hb, hml, hown, hts⟩ (cQ_valueFrom l dC dI tt _ q0 q1 cq (rwA ra i rv) ra i (by omega) hra) (gT_V tw_m_Q_26 tw_i_yQ_valueFrom tw_s_yQ_valueFrom tw_I_Q tw_c_yQ_valueFrom) ⟨rfl, by decide +kernel, by decide +kernel, (by decide +kernel : (parseMethodDescriptor yQ_valueFrom.desc).map (fun d => d.parameters.length) = some 2)⟩ ⟨by decide, by decide⟩ (ci := 2) rfl rfl rfl hP hD hK hS hA hT [0, 1] [] [0] (by decide) rfl rfl (by decide) (by decide) rfl hl.1 rfl (Nat.le_of_ble_eq_true rfl) dQ_reckonValues_21 ⟨by decide, by decide⟩ (fun H locs hP hD hS => ?_)
        have hP : va_P (dC, dI) cls (wQ q0 q1 cq (rwA ra i rv) ra) H := hP
        have hD : va_D A (wQ q0 q1 cq (rwA ra i rv) ra) := hD
        refine ct_dast (k := i) (w1 := (wQ q0 q1 cq (rwA ra (i + 1) rv) ra)) hx hb hK hP hD hS 1 0 rfl rfl (vp_in_nI (by omega) (by decide)) (nI_clamp (by omega)) (by rw [← rwA_s]; rfl) dQ_reckonValues_24 (fun H locs hP hD hS => ?_)
        refine lv_iinc (v := (nI (i + 1))) (lv' := [(2, .int (nI (i + 1))), (1, .int (nI (mk ra))), (0, .ref q0)]) hx hb dQ_reckonValues_25 hl (k := 0) rfl (nI_1 i) (by decide) rfl (fun ls hl => ?_)
        refine lv_goto (tgt := 7) hx hb dQ_reckonValues_28 (by decide) ?_
        exact ih (i + 1) ls H locs (by omega) hP hD hS (lv_sub hl [0, 1, 2] rfl)
  refine lv_aload_n hx hb dQ_reckonValues_0 rfl (lv_at hl 0 rfl) ?_
  refine ct_cvi (As := []) (rest := []) (wr := []) (w1 := (wQ q0 q1 cq rv ra)) ⟨hx, hb, hml, hown, hts⟩ (cQ_markNotAbove l dC dI tt _ q0 q1 cq rv ra hra) (gT_V tw_m_Q_22 tw_i_yQ_markNotAbove tw_s_yQ_markNotAbove tw_I_Q tw_c_yQ_markNotAbove) ⟨rfl, by decide +kernel, by decide +kernel, (by decide +kernel : (parseMethodDescriptor yQ_markNotAbove.desc).map (fun d => d.parameters.length) = some 0)⟩ ⟨by decide, by decide⟩ (ci := 2) rfl rfl rfl hP hD hK hS hA hT [0, 1] [] [0] (by decide) rfl rfl (by decide) (by decide) rfl hl.1 rfl (Nat.le_of_ble_eq_true rfl) dQ_reckonValues_1 ⟨by decide, by decide⟩ (fun H locs hP hD hS => ?_)
  have hP : va_P (dC, dI) cls (wQ q0 q1 cq rv ra) H := hP
  have hD : va_D A (wQ q0 q1 cq rv ra) := hD
  refine lv_istore_n (lv' := [(1, .int (nI (mk ra))), (0, .ref q0)]) hx hb dQ_reckonValues_4 rfl hl (by decide) rfl (fun ls hl => ?_)
  refine lv_iconst (v := 0) hx hb dQ_reckonValues_5 (by decide) ?_
  refine ct_topi (y := nI 0) (rfl) ?_
  refine lv_istore_n (lv' := [(2, .int (nI 0)), (1, .int (nI (mk ra))), (0, .ref q0)]) hx hb dQ_reckonValues_6 rfl hl (by decide) rfl (fun ls hl => ?_)
  rw [← rwA_0 ra rv] at hP hD
  exact key 9 0 ls H locs rfl hP hD hS (lv_sub hl [0, 1, 2] rfl)

set_option maxHeartbeats 4000000 in
set_option maxRecDepth 100000 in
/-- the rows at T -/
theorem cQ_moveTo (l : Launch) (dC : Nat → ClassId) (dI : Nat → Nat → Nat) (tt : Nat → Nat) (sz : Nat) (q0 q1 : Nat) (cq : ClassId) (rv : Nat → UInt64) (ra T : UInt64) (hra : ft_P ra) (hT9 : ft_P T) (hrv : ∀ k, k < 9 → rv k = rwv ra k (mk ra)) : Ct l dC dI tt yQ_moveTo bQ_moveTo 3 none ({ frames := 4, cells := 0, slots := 0, locals := 93 }) (tQ cq) [.ref q0, .double T] (wQ q0 q1 cq rv ra) sz (fun A => ctQv dC dI (tQ cq) (wQ q0 q1 cq (rwA T 9 rv) T) A) := by
  refine ct_of (by decide) (Nat.le_of_ble_eq_true rfl) ?_
  intro p e s m below meth c A ls hx hb hr hts hown hml hlocks hnm hA hS hP hK hD hT hl
  have hl : lv_has ls 3 [(0, .ref q0), (1, .double T)] := hl
  refine lv_dload_n hx hb dQ_moveTo_0 rfl (lv_at hl 1 rfl) ?_
  refine lv_aload_n hx hb dQ_moveTo_1 rfl (lv_at hl 0 rfl) ?_
  refine va_get (D := (dC, dI)) (ci := 2) (v := .double ra) (C := "MashEnzymes$Rows") (T := F_Q) (N := 2) hx hb hts in_Q hown hK hP 0 rfl rfl 1 (by decide) (hts _ tw_f_Q_18) (fun _ h9 => h9) rfl dQ_moveTo_2 ?_
  refine lv_dcmp hx hb dQ_moveTo_5 ?_
  refine lv_if_eq (tgt := 18) hx hb dQ_moveTo_6 (by decide) (fun c_1 => ?_) (fun c_1 => ?_)
  · have he : T = ra := ft_inj hT9 hra ((cv_l_eq _).mp c_1)
    subst he
    rw [← rwA_same hrv] at hP hD
    exact ct_vret hx hb hr hlocks hP hK hD hS dQ_moveTo_18
  · refine lv_aload_n hx hb dQ_moveTo_9 rfl (lv_at hl 0 rfl) ?_
    refine lv_dload_n hx hb dQ_moveTo_10 rfl (lv_at hl 1 rfl) ?_
    refine va_put (D := (dC, dI)) (ci := 2) (v := .double T) (ty := .double) (C := "MashEnzymes$Rows") (T := F_Q) (N := 2) hx hb hts in_Q t_Q t_Q_ok n_Q hown hK hP hD hS 0 rfl rfl 1 (by decide) (hts _ tw_f_Q_18) (fun _ h9 => h9) rfl (by decide +kernel) rfl rfl (Nat.le_of_ble_eq_true rfl) dQ_moveTo_11 (fun H locs hP hD hS => ?_)
    have hP : va_P (dC, dI) cls (wQ q0 q1 cq rv T) H := hP
    have hD : va_D A (wQ q0 q1 cq rv T) := hD
    refine lv_aload_n hx hb dQ_moveTo_14 rfl (lv_at hl 0 rfl) ?_
    refine ct_cvv (As := []) (rest := []) (wr := []) (w1 := (wQ q0 q1 cq (rwA T 9 rv) T)) ⟨hx, hb, hml, hown, hts⟩ (cQ_reckonValues l dC dI tt _ q0 q1 cq rv T hT9) (gT_V tw_m_Q_15 tw_i_yQ_reckonValues tw_s_yQ_reckonValues tw_I_Q tw_c_yQ_reckonValues) ⟨rfl, by decide +kernel, by decide +kernel, (by decide +kernel : (parseMethodDescriptor yQ_reckonValues.desc).map (fun d => d.parameters.length) = some 0)⟩ ⟨by decide, by decide⟩ (ci := 2) rfl rfl rfl hP hD hK hS hA hT [0, 1] [] [0] (by decide) rfl rfl (by decide) (by decide) rfl hl.1 rfl (Nat.le_of_ble_eq_true rfl) dQ_moveTo_15 ⟨by decide, by decide⟩ (fun H locs hP hD hS => ?_)
    have hP : va_P (dC, dI) cls (wQ q0 q1 cq (rwA T 9 rv) T) H := hP
    have hD : va_D A (wQ q0 q1 cq (rwA T 9 rv) T) := hD
    exact ct_vret hx hb hr hlocks hP hK hD hS dQ_moveTo_18

set_option maxHeartbeats 4000000 in
set_option maxRecDepth 100000 in
/-- rate -/
theorem cQ_rate (l : Launch) (dC : Nat → ClassId) (dI : Nat → Nat → Nat) (tt : Nat → Nat) (sz : Nat) (q0 q1 : Nat) (cq : ClassId) (rv : Nat → UInt64) (ra : UInt64) (e0 : Nat) (he0 : e0 < 4) : Ct l dC dI tt yQ_rate bQ_rate 2 (some .double) ({ frames := 0, cells := 0, slots := 0, locals := 0 }) (tQ cq) [.ref q0, .int (nI e0)] (wQ q0 q1 cq rv ra) sz (fun A => ctQd dC dI (tQ cq) (rv (e0)) (wQ q0 q1 cq rv ra) A) := by
  refine ct_of (by decide) (Nat.le_of_ble_eq_true rfl) ?_
  intro p e s m below meth c A ls hx hb hr hts hown hml hlocks hnm hA hS hP hK hD hT hl
  have hl : lv_has ls 2 [(0, .ref q0), (1, .int (nI e0))] := hl
  refine lv_aload_n hx hb dQ_rate_0 rfl (lv_at hl 0 rfl) ?_
  refine va_get (D := (dC, dI)) (ci := 2) (v := .ref q1) (C := "MashEnzymes$Rows") (T := F_Q) (N := 2) hx hb hts in_Q hown hK hP 0 rfl rfl 0 (by decide) (hts _ tw_f_Q_11) (fun _ h9 => h9) rfl dQ_rate_1 ?_
  refine lv_iconst (v := 0) hx hb dQ_rate_4 (by decide) ?_
  refine lv_iload_n hx hb dQ_rate_5 rfl (lv_at hl 1 rfl) ?_
  refine lv_iadd hx hb dQ_rate_6 ?_
  refine ct_topi (y := nI e0) (by rw [show (0 : Int32) = nI 0 from rfl, nI_add, Nat.zero_add]) ?_
  refine ct_dald (k := e0) (v := rv e0) hx hb hK hP 1 0 rfl rfl (vp_in_nI (by omega) (by decide)) (nI_clamp (by omega)) (rfl) dQ_rate_7 ?_
  exact ct_dret hx hb hr hlocks hP hK hD hS (rfl) dQ_rate_8

set_option maxHeartbeats 4000000 in
set_option maxRecDepth 100000 in
/-- decay -/
theorem cQ_decay (l : Launch) (dC : Nat → ClassId) (dI : Nat → Nat → Nat) (tt : Nat → Nat) (sz : Nat) (q0 q1 : Nat) (cq : ClassId) (rv : Nat → UInt64) (ra : UInt64) (e0 : Nat) (he0 : e0 < 4) : Ct l dC dI tt yQ_decay bQ_decay 2 (some .double) ({ frames := 0, cells := 0, slots := 0, locals := 0 }) (tQ cq) [.ref q0, .int (nI e0)] (wQ q0 q1 cq rv ra) sz (fun A => ctQd dC dI (tQ cq) (rv (4 + e0)) (wQ q0 q1 cq rv ra) A) := by
  refine ct_of (by decide) (Nat.le_of_ble_eq_true rfl) ?_
  intro p e s m below meth c A ls hx hb hr hts hown hml hlocks hnm hA hS hP hK hD hT hl
  have hl : lv_has ls 2 [(0, .ref q0), (1, .int (nI e0))] := hl
  refine lv_aload_n hx hb dQ_decay_0 rfl (lv_at hl 0 rfl) ?_
  refine va_get (D := (dC, dI)) (ci := 2) (v := .ref q1) (C := "MashEnzymes$Rows") (T := F_Q) (N := 2) hx hb hts in_Q hown hK hP 0 rfl rfl 0 (by decide) (hts _ tw_f_Q_11) (fun _ h9 => h9) rfl dQ_decay_1 ?_
  refine lv_iconst (v := 4) hx hb dQ_decay_4 (by decide) ?_
  refine lv_iload_n hx hb dQ_decay_5 rfl (lv_at hl 1 rfl) ?_
  refine lv_iadd hx hb dQ_decay_6 ?_
  refine ct_topi (y := nI (4 + e0)) (by rw [show (4 : Int32) = nI 4 from rfl, nI_add]) ?_
  refine ct_dald (k := (4 + e0)) (v := rv (4 + e0)) hx hb hK hP 1 0 rfl rfl (vp_in_nI (by omega) (by decide)) (nI_clamp (by omega)) (rfl) dQ_decay_7 ?_
  exact ct_dret hx hb hr hlocks hP hK hD hS (rfl) dQ_decay_8

set_option maxHeartbeats 4000000 in
set_option maxRecDepth 100000 in
/-- gelling -/
theorem cQ_gelling (l : Launch) (dC : Nat → ClassId) (dI : Nat → Nat → Nat) (tt : Nat → Nat) (sz : Nat) (q0 q1 : Nat) (cq : ClassId) (rv : Nat → UInt64) (ra : UInt64) : Ct l dC dI tt yQ_gelling bQ_gelling 1 (some .double) ({ frames := 0, cells := 0, slots := 0, locals := 0 }) (tQ cq) [.ref q0] (wQ q0 q1 cq rv ra) sz (fun A => ctQd dC dI (tQ cq) (rv 8) (wQ q0 q1 cq rv ra) A) := by
  refine ct_of (by decide) (Nat.le_of_ble_eq_true rfl) ?_
  intro p e s m below meth c A ls hx hb hr hts hown hml hlocks hnm hA hS hP hK hD hT hl
  have hl : lv_has ls 1 [(0, .ref q0)] := hl
  refine lv_aload_n hx hb dQ_gelling_0 rfl (lv_at hl 0 rfl) ?_
  refine va_get (D := (dC, dI)) (ci := 2) (v := .ref q1) (C := "MashEnzymes$Rows") (T := F_Q) (N := 2) hx hb hts in_Q hown hK hP 0 rfl rfl 0 (by decide) (hts _ tw_f_Q_11) (fun _ h9 => h9) rfl dQ_gelling_1 ?_
  refine lv_bipush (v := 8) hx hb dQ_gelling_4 (by decide) ?_
  refine ct_dald (k := 8) (v := rv 8) hx hb hK hP 1 0 rfl rfl (by unfold vp_in; decide) (rfl) (rfl) dQ_gelling_6 ?_
  exact ct_dret hx hb hr hlocks hP hK hD hS (rfl) dQ_gelling_7

