set_option maxHeartbeats 4000000 in
set_option maxRecDepth 100000 in
/-- run -/
theorem cN_run (l : Launch) (dC : Nat → ClassId) (dI : Nat → Nat → Nat) (tt : Nat → Nat) (sz : Nat) (ad : Nat → Nat) (cA : Nat → ClassId) (Ac : UInt64) (gt lt : Int32) (ts : UInt64) (c0 : Nat) (hs : Nat → Int32) (ht : Nat → UInt64) (dc : Int32) (pa : Nat → UInt64) (ib : Nat → Int32) (u : SN) (sec : Int32) (hc32 : c0 ≤ 32) (hAc : ft_P Ac) (hok : rnOK gt lt sec u.2.2.1 → ∀ i, i < sec.toNatClampNeg → okN hs ht c0 Ac (itN hs ht c0 Ac i u)) : Ct l dC dI tt yN_run bN_run 3 (some .int) ({ frames := 2, cells := 0, slots := 0, locals := 62 }) (tN cA) [.ref (ad 0), .int sec] (wN ad cA u.1 u.2.2.2 Ac gt lt ts u.2.2.1 (nI c0) hs ht dc pa ib u.2.1) sz (fun A => ctQc dC dI (tN cA) (rnOK gt lt sec u.2.2.1) (itN hs ht c0 Ac sec.toNatClampNeg u).2.2.1 (wR ad cA Ac gt lt ts c0 hs ht dc pa ib (itN hs ht c0 Ac sec.toNatClampNeg u)) (-1) (wR ad cA Ac gt lt ts c0 hs ht dc pa ib u) A) := by
  refine ct_of (by decide) (Nat.le_of_ble_eq_true rfl) ?_
  intro p e s m below meth c A ls hx hb hr hts hown hml hlocks hnm hA hS hP hK hD hT hl
  have hl : lv_has ls 3 [(0, .ref (ad 0)), (1, .int sec)] := hl
  refine lv_aload_n hx hb dN_run_0 rfl (lv_at hl 0 rfl) ?_
  refine ct_cvc (As := []) (rest := []) (wr := []) (w1 := (wN ad cA u.1 u.2.2.2 Ac gt lt ts u.2.2.1 (nI c0) hs ht dc pa ib u.2.1)) (w0 := (wN ad cA u.1 u.2.2.2 Ac gt lt ts u.2.2.1 (nI c0) hs ht dc pa ib u.2.1)) ⟨hx, hb, hml, hown, hts⟩ (cN_isEmpty l dC dI tt _ ad cA u.1 u.2.2.2 Ac gt lt ts u.2.2.1 (nI c0) hs ht dc pa ib u.2.1) (gT_V tw_m_N_101 tw_i_yN_isEmpty tw_s_yN_isEmpty tw_I_N tw_c_yN_isEmpty) ⟨rfl, by decide +kernel, by decide +kernel, (by decide +kernel : (parseMethodDescriptor yN_isEmpty.desc).map (fun d => d.parameters.length) = some 0)⟩ ⟨by decide, by decide⟩ (ci := 3) rfl rfl rfl hP hD hK hS hA hT [0, 1, 2, 3, 4, 5, 6] [] [0, 1, 2, 3, 4, 5] (by decide) rfl rfl (by decide) (by decide) rfl hl.1 rfl (Nat.le_of_ble_eq_true rfl) dN_run_1 ⟨by decide, by decide⟩ (fun c_1 H locs hP hD hS => ?_) (fun c_1 H locs hP hD hS => ?_)
  · have hP : va_P (dC, dI) cls (wN ad cA u.1 u.2.2.2 Ac gt lt ts u.2.2.1 (nI c0) hs ht dc pa ib u.2.1) H := hP
    have hD : va_D A (wN ad cA u.1 u.2.2.2 Ac gt lt ts u.2.2.1 (nI c0) hs ht dc pa ib u.2.1) := hD
    refine lv_if_ne (tgt := 28) hx hb dN_run_4 (by decide) (fun c_2 => ?_) (fun c_2 => ?_)
    · refine lv_iconst (v := (-1)) hx hb dN_run_28 (by decide) ?_
      exact ct_ret0 hx hb hr rfl hlocks hP hK hD hS (fun h => h.1 c_1) rfl dN_run_29
    · exact (absurd c_2 (by decide))
  · have hP : va_P (dC, dI) cls (wN ad cA u.1 u.2.2.2 Ac gt lt ts u.2.2.1 (nI c0) hs ht dc pa ib u.2.1) H := hP
    have hD : va_D A (wN ad cA u.1 u.2.2.2 Ac gt lt ts u.2.2.1 (nI c0) hs ht dc pa ib u.2.1) := hD
    refine lv_if_ne (tgt := 28) hx hb dN_run_4 (by decide) (fun c_3 => ?_) (fun c_3 => ?_)
    · exact absurd rfl c_3
    · refine lv_iload_n hx hb dN_run_7 rfl (lv_at hl 1 rfl) ?_
      refine lv_if_lt (tgt := 28) hx hb dN_run_8 (by decide) (fun c_4 => ?_) (fun c_4 => ?_)
      · refine lv_iconst (v := (-1)) hx hb dN_run_28 (by decide) ?_
        exact ct_ret0 hx hb hr rfl hlocks hP hK hD hS (fun h => Int32.not_lt.mpr h.2.1 c_4) rfl dN_run_29
      · refine lv_iload_n hx hb dN_run_11 rfl (lv_at hl 1 rfl) ?_
        refine lv_ldc hx hb hown (hts _ tw_k_N_105) dN_run_12 ?_
        refine lv_icmp_gt (tgt := 28) hx hb dN_run_14 (by decide) (fun c_5 => ?_) (fun c_5 => ?_)
        · refine lv_iconst (v := (-1)) hx hb dN_run_28 (by decide) ?_
          exact ct_ret0 hx hb hr rfl hlocks hP hK hD hS (fun h => Int32.not_lt.mpr h.2.2.1 c_5) rfl dN_run_29
        · refine lv_iload_n hx hb dN_run_17 rfl (lv_at hl 1 rfl) ?_
          refine lv_ldc hx hb hown (hts _ tw_k_N_78) dN_run_18 ?_
          refine lv_aload_n hx hb dN_run_20 rfl (lv_at hl 0 rfl) ?_
          refine va_get (D := (dC, dI)) (ci := 3) (v := .int u.2.2.1) (C := "MashEnzymesModel") (T := F_N) (N := 14) hx hb hts in_N hown hK hP 0 rfl rfl 6 (by decide) (hts _ tw_f_N_71) (fun _ h9 => h9) rfl dN_run_21 ?_
          refine lv_isub hx hb dN_run_24 ?_
          refine lv_icmp_le (tgt := 30) hx hb dN_run_25 (by decide) (fun c_6 => ?_) (fun c_6 => ?_)
          · have hrn : rnOK gt lt sec u.2.2.1 := ⟨c_1, Int32.not_lt.mp c_4, Int32.not_lt.mp c_5, c_6⟩
            obtain ⟨N, hN, rfl⟩ := nI_of (x := sec) c_4
            have hNc : (nI N).toNatClampNeg = N := nI_clamp hN
            rw [hNc] at hok
            rw [hNc]
            have key : ∀ (n i : Nat) (ls : Array Slot) (H : Heap) (locs : List Loc), n + i = N → va_P (dC, dI) cls (wR ad cA Ac gt lt ts c0 hs ht dc pa ib (itN hs ht c0 Ac i u)) H → va_D A (wR ad cA Ac gt lt ts c0 hs ht dc pa ib (itN hs ht c0 Ac i u)) → va_S A s.heap H locs → lv_has ls 3 [(2, .int (nI i)), (1, .int (nI N)), (0, .ref (ad 0))] → W p l e ({ frames := 2, cells := 0, slots := 0, locals := 62 } : Room) s m ([.ref (ad 0), .int (nI N)] : List Value).toArray below meth c H locs 0 0 (MQ below (ctQc dC dI (tN cA) (rnOK gt lt (nI N) u.2.2.1) (itN hs ht c0 Ac N u).2.2.1 (wR ad cA Ac gt lt ts c0 hs ht dc pa ib (itN hs ht c0 Ac N u)) (-1) (wR ad cA Ac gt lt ts c0 hs ht dc pa ib u) A) ([.ref (ad 0), .int (nI N)] : List Value).toArray s 0 0 A) (F0 m 32 ls []) := by
              intro n
              induction n with
              | zero =>
                intro i ls H locs hni hP hD hS hl
                refine lv_iload_n hx hb dN_run_32 rfl (lv_at hl 0 rfl) ?_
                refine lv_iload_n hx hb dN_run_33 rfl (lv_at hl 1 rfl) ?_
                refine lv_icmp_ge (tgt := 47) hx hb dN_run_34 (by decide) (fun c_7 => ?_) (fun c_7 => ?_)
                · have hi : i = N := by omega
                  subst hi
                  refine lv_aload_n hx hb dN_run_47 rfl (lv_at hl 2 rfl) ?_
                  refine va_get (D := (dC, dI)) (ci := 3) (v := .int ((itN hs ht c0 Ac i u).2.2.1)) (C := "MashEnzymesModel") (T := F_N) (N := 14) hx hb hts in_N hown hK hP 0 rfl rfl 6 (by decide) (hts _ tw_f_N_71) (fun _ h9 => h9) rfl dN_run_48 ?_
                  exact ct_ret1 hx hb hr rfl hlocks hP hK hD hS hrn rfl dN_run_51
                · exact absurd (nI_le (a := N) (b := i) (by omega) (by omega)) c_7
              | succ n ih =>
                intro i ls H locs hni hP hD hS hl
                refine lv_iload_n hx hb dN_run_32 rfl (lv_at hl 0 rfl) ?_
                refine lv_iload_n hx hb dN_run_33 rfl (lv_at hl 1 rfl) ?_
                refine lv_icmp_ge (tgt := 47) hx hb dN_run_34 (by decide) (fun c_8 => ?_) (fun c_8 => ?_)
                · exact absurd ((nI_leI (a := N) (b := i) (by omega) (by omega)).mp c_8) (by omega)
                · refine lv_aload_n hx hb dN_run_37 rfl (lv_at hl 2 rfl) ?_
                  refine ct_cvv (As := []) (rest := []) (wr := []) (w1 := (wN ad cA ((itN hs ht c0 Ac (i + 1) u).1) ((itN hs ht c0 Ac (i + 1) u).2.2.2) Ac gt lt ts ((itN hs ht c0 Ac (i + 1) u).2.2.1) (nI c0) hs ht dc pa ib ((itN hs ht c0 Ac (i + 1) u).2.1))) ⟨hx, hb, hml, hown, hts⟩ (cN_second l dC dI tt _ ad cA Ac gt lt ts c0 hs ht dc pa ib (itN hs ht c0 Ac i u) hc32 hAc (hok hrn i (by omega))) (gT_V tw_m_N_106 tw_i_yN_second tw_s_yN_second tw_I_N tw_c_yN_second) ⟨rfl, by decide +kernel, by decide +kernel, (by decide +kernel : (parseMethodDescriptor yN_second.desc).map (fun d => d.parameters.length) = some 0)⟩ ⟨by decide, by decide⟩ (ci := 3) rfl rfl rfl hP hD hK hS hA hT [0, 1, 2, 3, 4, 5, 6] [] [0, 1, 2, 3, 4, 5] (by decide) rfl rfl (by decide) (by decide) rfl hl.1 rfl (Nat.le_of_ble_eq_true rfl) dN_run_38 ⟨by decide, by decide⟩ (fun H locs hP hD hS => ?_)
                  have hP : va_P (dC, dI) cls (wN ad cA ((itN hs ht c0 Ac (i + 1) u).1) ((itN hs ht c0 Ac (i + 1) u).2.2.2) Ac gt lt ts ((itN hs ht c0 Ac (i + 1) u).2.2.1) (nI c0) hs ht dc pa ib ((itN hs ht c0 Ac (i + 1) u).2.1)) H := hP
                  have hD : va_D A (wN ad cA ((itN hs ht c0 Ac (i + 1) u).1) ((itN hs ht c0 Ac (i + 1) u).2.2.2) Ac gt lt ts ((itN hs ht c0 Ac (i + 1) u).2.2.1) (nI c0) hs ht dc pa ib ((itN hs ht c0 Ac (i + 1) u).2.1)) := hD
                  refine lv_iinc (v := (nI (i + 1))) (lv' := [(2, .int (nI (i + 1))), (1, .int (nI N)), (0, .ref (ad 0))]) hx hb dN_run_41 hl (k := 0) rfl (nI_1 i) (by decide) rfl (fun ls hl => ?_)
                  refine lv_goto (tgt := 32) hx hb dN_run_44 (by decide) ?_
                  exact ih (i + 1) ls H locs (by omega) hP hD hS (lv_sub hl [0, 1, 2] rfl)
            refine lv_iconst (v := 0) hx hb dN_run_30 (by decide) ?_
            refine ct_topi (y := nI 0) (rfl) ?_
            refine lv_istore_n (lv' := [(2, .int (nI 0)), (0, .ref (ad 0)), (1, .int (nI N))]) hx hb dN_run_31 rfl hl (by decide) rfl (fun ls hl => ?_)
            exact key N 0 ls _ _ rfl hP hD hS (lv_sub hl [0, 2, 1] rfl)
          · refine lv_iconst (v := (-1)) hx hb dN_run_28 (by decide) ?_
            exact ct_ret0 hx hb hr rfl hlocks hP hK hD hS (fun h => c_6 h.2.2.2) rfl dN_run_29

set_option maxHeartbeats 4000000 in
set_option maxRecDepth 100000 in
/-- sugar -/
theorem cN_sugar (l : Launch) (dC : Nat → ClassId) (dI : Nat → Nat → Nat) (tt : Nat → Nat) (sz : Nat) (ad : Nat → Nat) (cA : Nat → ClassId) (a : Nat → UInt64) (Tm Ac : UInt64) (gt lt : Int32) (ts : UInt64) (nw st : Int32) (hs : Nat → Int32) (ht : Nat → UInt64) (dc : Int32) (pa : Nat → UInt64) (ib : Nat → Int32) (ac : Nat → UInt64) (kind : Int32) : Ct l dC dI tt yN_sugar bN_sugar 2 (some .double) ({ frames := 0, cells := 0, slots := 0, locals := 0 }) (tN cA) [.ref (ad 0), .int kind] (wN ad cA a Tm Ac gt lt ts nw st hs ht dc pa ib ac) sz (fun A => ctQd dC dI (tN cA) (kdV a 3 5 kind) (wN ad cA a Tm Ac gt lt ts nw st hs ht dc pa ib ac) A) := by
  refine ct_of (by decide) (Nat.le_of_ble_eq_true rfl) ?_
  intro p e s m below meth c A ls hx hb hr hts hown hml hlocks hnm hA hS hP hK hD hT hl
  have hl : lv_has ls 2 [(0, .ref (ad 0)), (1, .int kind)] := hl
  refine lv_iload_n hx hb dN_sugar_0 rfl (lv_at hl 1 rfl) ?_
  refine lv_if_lt (tgt := 9) hx hb dN_sugar_1 (by decide) (fun c_1 => ?_) (fun c_1 => ?_)
  · refine lv_ldc2d hx hb hown (hts _ tw_d_N_109) dN_sugar_9 ?_
    refine lv_goto (tgt := 23) hx hb dN_sugar_12 (by decide) ?_
    exact ct_dret hx hb hr hlocks hP hK hD hS (by unfold kdV; rw [if_neg (fun h => Int32.not_lt.mpr h.1 c_1)]) dN_sugar_23
  · obtain ⟨k, hk, rfl⟩ := nI_of (x := kind) c_1
    refine lv_iload_n hx hb dN_sugar_4 rfl (lv_at hl 1 rfl) ?_
    refine lv_iconst (v := 4) hx hb dN_sugar_5 (by decide) ?_
    refine lv_icmp_le (tgt := 15) hx hb dN_sugar_6 (by decide) (fun c_2 => ?_) (fun c_2 => ?_)
    · have hk5 : k < 5 := by have := (nI_leI (a := k) (b := 4) hk (by decide)).mp c_2; omega
      refine lv_aload_n hx hb dN_sugar_15 rfl (lv_at hl 0 rfl) ?_
      refine va_get (D := (dC, dI)) (ci := 3) (v := .ref (ad 1)) (C := "MashEnzymesModel") (T := F_N) (N := 14) hx hb hts in_N hown hK hP 0 rfl rfl 0 (by decide) (hts _ tw_f_N_9) (fun _ h9 => h9) rfl dN_sugar_16 ?_
      refine lv_iconst (v := 3) hx hb dN_sugar_19 (by decide) ?_
      refine lv_iload_n hx hb dN_sugar_20 rfl (lv_at hl 1 rfl) ?_
      refine lv_iadd hx hb dN_sugar_21 ?_
      refine ct_topi (y := nI (3 + k)) (by rw [show (3 : Int32) = nI 3 from rfl, nI_add]) ?_
      refine ct_dald (k := (3 + k)) (v := a (3 + k)) hx hb hK hP 1 0 rfl rfl (vp_in_nI (by omega) (by decide)) (nI_clamp (by omega)) (rfl) dN_sugar_22 ?_
      exact ct_dret hx hb hr hlocks hP hK hD hS (by unfold kdV; rw [if_pos ⟨nI_pos' hk, nI_lt hk5 (by decide)⟩, nI_clamp hk]) dN_sugar_23
    · refine lv_ldc2d hx hb hown (hts _ tw_d_N_109) dN_sugar_9 ?_
      refine lv_goto (tgt := 23) hx hb dN_sugar_12 (by decide) ?_
      exact ct_dret hx hb hr hlocks hP hK hD hS (by unfold kdV; rw [if_neg (fun h => c_2 (nI_le (a := k) (b := 4) (by have := (nI_ltI (a := k) (b := 5) hk (by decide)).mp h.2; omega) (by decide)))]) dN_sugar_23

set_option maxHeartbeats 4000000 in
set_option maxRecDepth 100000 in
/-- enzymeLeft -/
theorem cN_enzymeLeft (l : Launch) (dC : Nat → ClassId) (dI : Nat → Nat → Nat) (tt : Nat → Nat) (sz : Nat) (ad : Nat → Nat) (cA : Nat → ClassId) (a : Nat → UInt64) (Tm Ac : UInt64) (gt lt : Int32) (ts : UInt64) (nw st : Int32) (hs : Nat → Int32) (ht : Nat → UInt64) (dc : Int32) (pa : Nat → UInt64) (ib : Nat → Int32) (ac : Nat → UInt64) (kind : Int32) : Ct l dC dI tt yN_enzymeLeft bN_enzymeLeft 2 (some .double) ({ frames := 0, cells := 0, slots := 0, locals := 0 }) (tN cA) [.ref (ad 0), .int kind] (wN ad cA a Tm Ac gt lt ts nw st hs ht dc pa ib ac) sz (fun A => ctQd dC dI (tN cA) (kdV a 9 4 kind) (wN ad cA a Tm Ac gt lt ts nw st hs ht dc pa ib ac) A) := by
  refine ct_of (by decide) (Nat.le_of_ble_eq_true rfl) ?_
  intro p e s m below meth c A ls hx hb hr hts hown hml hlocks hnm hA hS hP hK hD hT hl
  have hl : lv_has ls 2 [(0, .ref (ad 0)), (1, .int kind)] := hl
  refine lv_iload_n hx hb dN_enzymeLeft_0 rfl (lv_at hl 1 rfl) ?_
  refine lv_if_lt (tgt := 9) hx hb dN_enzymeLeft_1 (by decide) (fun c_1 => ?_) (fun c_1 => ?_)
  · refine lv_ldc2d hx hb hown (hts _ tw_d_N_109) dN_enzymeLeft_9 ?_
    refine lv_goto (tgt := 24) hx hb dN_enzymeLeft_12 (by decide) ?_
    exact ct_dret hx hb hr hlocks hP hK hD hS (by unfold kdV; rw [if_neg (fun h => Int32.not_lt.mpr h.1 c_1)]) dN_enzymeLeft_24
  · obtain ⟨k, hk, rfl⟩ := nI_of (x := kind) c_1
    refine lv_iload_n hx hb dN_enzymeLeft_4 rfl (lv_at hl 1 rfl) ?_
    refine lv_iconst (v := 3) hx hb dN_enzymeLeft_5 (by decide) ?_
    refine lv_icmp_le (tgt := 15) hx hb dN_enzymeLeft_6 (by decide) (fun c_2 => ?_) (fun c_2 => ?_)
    · have hk5 : k < 4 := by have := (nI_leI (a := k) (b := 3) hk (by decide)).mp c_2; omega
      refine lv_aload_n hx hb dN_enzymeLeft_15 rfl (lv_at hl 0 rfl) ?_
      refine va_get (D := (dC, dI)) (ci := 3) (v := .ref (ad 1)) (C := "MashEnzymesModel") (T := F_N) (N := 14) hx hb hts in_N hown hK hP 0 rfl rfl 0 (by decide) (hts _ tw_f_N_9) (fun _ h9 => h9) rfl dN_enzymeLeft_16 ?_
      refine lv_bipush (v := 9) hx hb dN_enzymeLeft_19 (by decide) ?_
      refine lv_iload_n hx hb dN_enzymeLeft_21 rfl (lv_at hl 1 rfl) ?_
      refine lv_iadd hx hb dN_enzymeLeft_22 ?_
      refine ct_topi (y := nI (9 + k)) (by rw [show (9 : Int32) = nI 9 from rfl, nI_add]) ?_
      refine ct_dald (k := (9 + k)) (v := a (9 + k)) hx hb hK hP 1 0 rfl rfl (vp_in_nI (by omega) (by decide)) (nI_clamp (by omega)) (rfl) dN_enzymeLeft_23 ?_
      exact ct_dret hx hb hr hlocks hP hK hD hS (by unfold kdV; rw [if_pos ⟨nI_pos' hk, nI_lt hk5 (by decide)⟩, nI_clamp hk]) dN_enzymeLeft_24
    · refine lv_ldc2d hx hb hown (hts _ tw_d_N_109) dN_enzymeLeft_9 ?_
      refine lv_goto (tgt := 24) hx hb dN_enzymeLeft_12 (by decide) ?_
      exact ct_dret hx hb hr hlocks hP hK hD hS (by unfold kdV; rw [if_neg (fun h => c_2 (nI_le (a := k) (b := 3) (by have := (nI_ltI (a := k) (b := 4) hk (by decide)).mp h.2; omega) (by decide)))]) dN_enzymeLeft_24

set_option maxHeartbeats 4000000 in
set_option maxRecDepth 100000 in
/-- starch -/
theorem cN_starch (l : Launch) (dC : Nat → ClassId) (dI : Nat → Nat → Nat) (tt : Nat → Nat) (sz : Nat) (ad : Nat → Nat) (cA : Nat → ClassId) (a : Nat → UInt64) (Tm Ac : UInt64) (gt lt : Int32) (ts : UInt64) (nw st : Int32) (hs : Nat → Int32) (ht : Nat → UInt64) (dc : Int32) (pa : Nat → UInt64) (ib : Nat → Int32) (ac : Nat → UInt64) (hok : vf_n64 (FP.dadd (a 1) (a 2))) : Ct l dC dI tt yN_starch bN_starch 1 (some .double) ({ frames := 0, cells := 0, slots := 0, locals := 0 }) (tN cA) [.ref (ad 0)] (wN ad cA a Tm Ac gt lt ts nw st hs ht dc pa ib ac) sz (fun A => ctQd dC dI (tN cA) (FP.dadd (a 1) (a 2)) (wN ad cA a Tm Ac gt lt ts nw st hs ht dc pa ib ac) A) := by
  refine ct_of (by decide) (Nat.le_of_ble_eq_true rfl) ?_
  intro p e s m below meth c A ls hx hb hr hts hown hml hlocks hnm hA hS hP hK hD hT hl
  have hl : lv_has ls 1 [(0, .ref (ad 0))] := hl
  refine lv_aload_n hx hb dN_starch_0 rfl (lv_at hl 0 rfl) ?_
  refine va_get (D := (dC, dI)) (ci := 3) (v := .ref (ad 1)) (C := "MashEnzymesModel") (T := F_N) (N := 14) hx hb hts in_N hown hK hP 0 rfl rfl 0 (by decide) (hts _ tw_f_N_9) (fun _ h9 => h9) rfl dN_starch_1 ?_
  refine lv_iconst (v := 1) hx hb dN_starch_4 (by decide) ?_
  refine ct_dald (k := 1) (v := a 1) hx hb hK hP 1 0 rfl rfl (by unfold vp_in; decide) (rfl) (rfl) dN_starch_5 ?_
  refine lv_aload_n hx hb dN_starch_6 rfl (lv_at hl 0 rfl) ?_
  refine va_get (D := (dC, dI)) (ci := 3) (v := .ref (ad 1)) (C := "MashEnzymesModel") (T := F_N) (N := 14) hx hb hts in_N hown hK hP 0 rfl rfl 0 (by decide) (hts _ tw_f_N_9) (fun _ h9 => h9) rfl dN_starch_7 ?_
  refine lv_iconst (v := 2) hx hb dN_starch_10 (by decide) ?_
  refine ct_dald (k := 2) (v := a 2) hx hb hK hP 1 0 rfl rfl (by unfold vp_in; decide) (rfl) (rfl) dN_starch_11 ?_
  refine lv_dadd hx hb dN_starch_12 (hok) ?_
  exact ct_dret hx hb hr hlocks hP hK hD hS (rfl) dN_starch_13

set_option maxHeartbeats 4000000 in
set_option maxRecDepth 100000 in
/-- degrees -/
theorem cN_degrees (l : Launch) (dC : Nat → ClassId) (dI : Nat → Nat → Nat) (tt : Nat → Nat) (sz : Nat) (ad : Nat → Nat) (cA : Nat → ClassId) (a : Nat → UInt64) (Tm Ac : UInt64) (gt lt : Int32) (ts : UInt64) (nw st : Int32) (hs : Nat → Int32) (ht : Nat → UInt64) (dc : Int32) (pa : Nat → UInt64) (ib : Nat → Int32) (ac : Nat → UInt64) : Ct l dC dI tt yN_degrees bN_degrees 1 (some .double) ({ frames := 0, cells := 0, slots := 0, locals := 0 }) (tN cA) [.ref (ad 0)] (wN ad cA a Tm Ac gt lt ts nw st hs ht dc pa ib ac) sz (fun A => ctQd dC dI (tN cA) Tm (wN ad cA a Tm Ac gt lt ts nw st hs ht dc pa ib ac) A) := by
  refine ct_of (by decide) (Nat.le_of_ble_eq_true rfl) ?_
  intro p e s m below meth c A ls hx hb hr hts hown hml hlocks hnm hA hS hP hK hD hT hl
  have hl : lv_has ls 1 [(0, .ref (ad 0))] := hl
  refine lv_aload_n hx hb dN_degrees_0 rfl (lv_at hl 0 rfl) ?_
  refine va_get (D := (dC, dI)) (ci := 3) (v := .double Tm) (C := "MashEnzymesModel") (T := F_N) (N := 14) hx hb hts in_N hown hK hP 0 rfl rfl 1 (by decide) (hts _ tw_f_N_62) (fun _ h9 => h9) rfl dN_degrees_1 ?_
  exact ct_dret hx hb hr hlocks hP hK hD hS (rfl) dN_degrees_4

set_option maxHeartbeats 4000000 in
set_option maxRecDepth 100000 in
/-- water -/
theorem cN_water (l : Launch) (dC : Nat → ClassId) (dI : Nat → Nat → Nat) (tt : Nat → Nat) (sz : Nat) (ad : Nat → Nat) (cA : Nat → ClassId) (a : Nat → UInt64) (Tm Ac : UInt64) (gt lt : Int32) (ts : UInt64) (nw st : Int32) (hs : Nat → Int32) (ht : Nat → UInt64) (dc : Int32) (pa : Nat → UInt64) (ib : Nat → Int32) (ac : Nat → UInt64) : Ct l dC dI tt yN_water bN_water 1 (some .double) ({ frames := 0, cells := 0, slots := 0, locals := 0 }) (tN cA) [.ref (ad 0)] (wN ad cA a Tm Ac gt lt ts nw st hs ht dc pa ib ac) sz (fun A => ctQd dC dI (tN cA) (a 0) (wN ad cA a Tm Ac gt lt ts nw st hs ht dc pa ib ac) A) := by
  refine ct_of (by decide) (Nat.le_of_ble_eq_true rfl) ?_
  intro p e s m below meth c A ls hx hb hr hts hown hml hlocks hnm hA hS hP hK hD hT hl
  have hl : lv_has ls 1 [(0, .ref (ad 0))] := hl
  refine lv_aload_n hx hb dN_water_0 rfl (lv_at hl 0 rfl) ?_
  refine va_get (D := (dC, dI)) (ci := 3) (v := .ref (ad 1)) (C := "MashEnzymesModel") (T := F_N) (N := 14) hx hb hts in_N hown hK hP 0 rfl rfl 0 (by decide) (hts _ tw_f_N_9) (fun _ h9 => h9) rfl dN_water_1 ?_
  refine lv_iconst (v := 0) hx hb dN_water_4 (by decide) ?_
  refine ct_dald (k := 0) (v := a 0) hx hb hK hP 1 0 rfl rfl (by unfold vp_in; decide) (rfl) (rfl) dN_water_5 ?_
  exact ct_dret hx hb hr hlocks hP hK hD hS (rfl) dN_water_6

set_option maxHeartbeats 4000000 in
set_option maxRecDepth 100000 in
/-- converted -/
theorem cN_converted (l : Launch) (dC : Nat → ClassId) (dI : Nat → Nat → Nat) (tt : Nat → Nat) (sz : Nat) (ad : Nat → Nat) (cA : Nat → ClassId) (a : Nat → UInt64) (Tm Ac : UInt64) (gt lt : Int32) (ts : UInt64) (nw st : Int32) (hs : Nat → Int32) (ht : Nat → UInt64) (dc : Int32) (pa : Nat → UInt64) (ib : Nat → Int32) (ac : Nat → UInt64) (hok : vf_n64 (FP.dadd (a 1) (a 2)) ∧ vf_n64 (FP.dmul 4638707616191610880 (FP.dadd (a 1) (a 2))) ∧ FP.dcmp (FP.dmul 4638707616191610880 (FP.dadd (a 1) (a 2))) ts ≠ none) : Ct l dC dI tt yN_converted bN_converted 1 (some .boolean) ({ frames := 1, cells := 0, slots := 0, locals := 20 }) (tN cA) [.ref (ad 0)] (wN ad cA a Tm Ac gt lt ts nw st hs ht dc pa ib ac) sz (fun A => ctQc dC dI (tN cA) (cvOK a ts gt lt) 1 (wN ad cA a Tm Ac gt lt ts nw st hs ht dc pa ib ac) 0 (wN ad cA a Tm Ac gt lt ts nw st hs ht dc pa ib ac) A) := by
  refine ct_of (by decide) (Nat.le_of_ble_eq_true rfl) ?_
  intro p e s m below meth c A ls hx hb hr hts hown hml hlocks hnm hA hS hP hK hD hT hl
  have hl : lv_has ls 1 [(0, .ref (ad 0))] := hl
  refine lv_aload_n hx hb dN_converted_0 rfl (lv_at hl 0 rfl) ?_
  refine ct_cvc (As := []) (rest := []) (wr := []) (w1 := (wN ad cA a Tm Ac gt lt ts nw st hs ht dc pa ib ac)) (w0 := (wN ad cA a Tm Ac gt lt ts nw st hs ht dc pa ib ac)) ⟨hx, hb, hml, hown, hts⟩ (cN_isEmpty l dC dI tt _ ad cA a Tm Ac gt lt ts nw st hs ht dc pa ib ac) (gT_V tw_m_N_101 tw_i_yN_isEmpty tw_s_yN_isEmpty tw_I_N tw_c_yN_isEmpty) ⟨rfl, by decide +kernel, by decide +kernel, (by decide +kernel : (parseMethodDescriptor yN_isEmpty.desc).map (fun d => d.parameters.length) = some 0)⟩ ⟨by decide, by decide⟩ (ci := 3) rfl rfl rfl hP hD hK hS hA hT [0, 1, 2, 3, 4, 5, 6] [] [0, 1, 2, 3, 4, 5] (by decide) rfl rfl (by decide) (by decide) rfl hl.1 rfl (Nat.le_of_ble_eq_true rfl) dN_converted_1 ⟨by decide, by decide⟩ (fun c_1 H locs hP hD hS => ?_) (fun c_1 H locs hP hD hS => ?_)
  · have hP : va_P (dC, dI) cls (wN ad cA a Tm Ac gt lt ts nw st hs ht dc pa ib ac) H := hP
    have hD : va_D A (wN ad cA a Tm Ac gt lt ts nw st hs ht dc pa ib ac) := hD
    refine lv_if_ne (tgt := 36) hx hb dN_converted_4 (by decide) (fun c_2 => ?_) (fun c_2 => ?_)
    · refine lv_iconst (v := 0) hx hb dN_converted_36 (by decide) ?_
      exact ct_ret0 hx hb hr rfl hlocks hP hK hD hS (fun h => h.1 c_1) rfl dN_converted_37
    · exact (absurd c_2 (by decide))
  · have hP : va_P (dC, dI) cls (wN ad cA a Tm Ac gt lt ts nw st hs ht dc pa ib ac) H := hP
    have hD : va_D A (wN ad cA a Tm Ac gt lt ts nw st hs ht dc pa ib ac) := hD
    refine lv_if_ne (tgt := 36) hx hb dN_converted_4 (by decide) (fun c_3 => ?_) (fun c_3 => ?_)
    · exact absurd rfl c_3
    · refine lv_ldc2d hx hb hown (hts _ tw_d_N_114) dN_converted_7 ?_
      refine lv_aload_n hx hb dN_converted_10 rfl (lv_at hl 0 rfl) ?_
      refine va_get (D := (dC, dI)) (ci := 3) (v := .ref (ad 1)) (C := "MashEnzymesModel") (T := F_N) (N := 14) hx hb hts in_N hown hK hP 0 rfl rfl 0 (by decide) (hts _ tw_f_N_9) (fun _ h9 => h9) rfl dN_converted_11 ?_
      refine lv_iconst (v := 1) hx hb dN_converted_14 (by decide) ?_
      refine ct_dald (k := 1) (v := a 1) hx hb hK hP 1 0 rfl rfl (by unfold vp_in; decide) (rfl) (rfl) dN_converted_15 ?_
      refine lv_aload_n hx hb dN_converted_16 rfl (lv_at hl 0 rfl) ?_
      refine va_get (D := (dC, dI)) (ci := 3) (v := .ref (ad 1)) (C := "MashEnzymesModel") (T := F_N) (N := 14) hx hb hts in_N hown hK hP 0 rfl rfl 0 (by decide) (hts _ tw_f_N_9) (fun _ h9 => h9) rfl dN_converted_17 ?_
      refine lv_iconst (v := 2) hx hb dN_converted_20 (by decide) ?_
      refine ct_dald (k := 2) (v := a 2) hx hb hK hP 1 0 rfl rfl (by unfold vp_in; decide) (rfl) (rfl) dN_converted_21 ?_
      refine lv_dadd hx hb dN_converted_22 (hok.1) ?_
      refine lv_dmul hx hb dN_converted_23 (hok.2.1) ?_
      refine lv_aload_n hx hb dN_converted_24 rfl (lv_at hl 0 rfl) ?_
      refine va_get (D := (dC, dI)) (ci := 3) (v := .double ts) (C := "MashEnzymesModel") (T := F_N) (N := 14) hx hb hts in_N hown hK hP 0 rfl rfl 5 (by decide) (hts _ tw_f_N_32) (fun _ h9 => h9) rfl dN_converted_25 ?_
      refine lv_dcmp hx hb dN_converted_28 ?_
      refine lv_if_gt (tgt := 36) hx hb dN_converted_29 (by decide) (fun c_4 => ?_) (fun c_4 => ?_)
      · refine lv_iconst (v := 0) hx hb dN_converted_36 (by decide) ?_
        exact ct_ret0 hx hb hr rfl hlocks hP hK hD hS (fun h => h.2 ((cvn_g hok.2.2).mp c_4)) rfl dN_converted_37
      · refine lv_iconst (v := 1) hx hb dN_converted_32 (by decide) ?_
        refine lv_goto (tgt := 37) hx hb dN_converted_33 (by decide) ?_
        exact ct_ret1 hx hb hr rfl hlocks hP hK hD hS ⟨c_1, fun h => c_4 ((cvn_g hok.2.2).mpr h)⟩ rfl dN_converted_37

theorem tpOK_iff {d : UInt64} (h0 : FP.dcmp d 0 ≠ none) (h1 : FP.dcmp d 4636737291354636288 ≠ none) : tpOK d ↔ ¬ FP.dcmp d 0 = some .lt ∧ ¬ FP.dcmp d 4636737291354636288 = some .gt := by
  unfold tpOK
  constructor
  · rintro ⟨h2, h3⟩
    constructor
    · intro h; rcases h2 with h2 | h2 <;> rw [h] at h2 <;> cases h2
    · intro h; rcases h3 with h3 | h3 <;> rw [h] at h3 <;> cases h3
  · rintro ⟨h2, h3⟩
    constructor
    · cases h : FP.dcmp d 0 with
      | none => exact absurd h h0
      | some o => cases o with
        | lt => exact absurd h h2
        | eq => exact Or.inr rfl
        | gt => exact Or.inl rfl
    · cases h : FP.dcmp d 4636737291354636288 with
      | none => exact absurd h h1
      | some o => cases o with
        | lt => exact Or.inl rfl
        | eq => exact Or.inr rfl
        | gt => exact absurd h h3
theorem lt4_3 {x : Int32} (h : x < 4) : x ≤ 3 := by
  rw [Int32.lt_iff_toInt_lt] at h
  rw [Int32.le_iff_toInt_le]
  exact Int.le_of_lt_add_one h
theorem lt3_4 {x : Int32} (h : x ≤ 3) : x < 4 := by
  rw [Int32.le_iff_toInt_le] at h
  rw [Int32.lt_iff_toInt_lt]
  exact Int.lt_add_one_of_le h
theorem lt3_2 {x : Int32} (h : x < 3) : x ≤ 2 := by
  rw [Int32.lt_iff_toInt_lt] at h
  rw [Int32.le_iff_toInt_le]
  exact Int.le_of_lt_add_one h
theorem lt2_3 {x : Int32} (h : x ≤ 2) : x < 3 := by
  rw [Int32.le_iff_toInt_le] at h
  rw [Int32.lt_iff_toInt_lt]
  exact Int.lt_add_one_of_le h
set_option maxHeartbeats 4000000 in
set_option maxRecDepth 100000 in
/-- enzyme -/
theorem cN_enzyme (l : Launch) (dC : Nat → ClassId) (dI : Nat → Nat → Nat) (tt : Nat → Nat) (sz : Nat) (ad : Nat → Nat) (cA : Nat → ClassId) (a : Nat → UInt64) (Tm Ac : UInt64) (gt lt : Int32) (ts : UInt64) (nw st : Int32) (hs : Nat → Int32) (ht : Nat → UInt64) (dc : Int32) (pa : Nat → UInt64) (ib : Nat → Int32) (ac : Nat → UInt64) (kind : Int32) (am : UInt64) (hok : ezOK kind am → vf_n64 (FP.dadd (a (9 + kind.toNatClampNeg)) am)) : Ct l dC dI tt yN_enzyme bN_enzyme 4 (some .boolean) ({ frames := 0, cells := 0, slots := 0, locals := 0 }) (tN cA) [.ref (ad 0), .int kind, .double am] (wN ad cA a Tm Ac gt lt ts nw st hs ht dc pa ib ac) sz (fun A => ctQc dC dI (tN cA) (ezOK kind am) 1 (wN ad cA (vf_upd a (9 + kind.toNatClampNeg) (FP.dadd (a (9 + kind.toNatClampNeg)) am)) Tm Ac gt lt ts nw st hs ht dc pa ib ac) 0 (wN ad cA a Tm Ac gt lt ts nw st hs ht dc pa ib ac) A) := by
  refine ct_of (by decide) (Nat.le_of_ble_eq_true rfl) ?_
  intro p e s m below meth c A ls hx hb hr hts hown hml hlocks hnm hA hS hP hK hD hT hl
  have hl : lv_has ls 4 [(0, .ref (ad 0)), (1, .int kind), (2, .double am)] := hl
  refine lv_iload_n hx hb dN_enzyme_0 rfl (lv_at hl 1 rfl) ?_
  refine lv_if_lt (tgt := 23) hx hb dN_enzyme_1 (by decide) (fun c_1 => ?_) (fun c_1 => ?_)
  · refine lv_iconst (v := 0) hx hb dN_enzyme_23 (by decide) ?_
    exact ct_ret0 hx hb hr rfl hlocks hP hK hD hS (fun h => Int32.not_lt.mpr h.2.2.1 c_1) rfl dN_enzyme_24
  · have h_k0 := (c_1 : ¬ kind < 0)
    refine lv_iload_n hx hb dN_enzyme_4 rfl (lv_at hl 1 rfl) ?_
    refine lv_iconst (v := 3) hx hb dN_enzyme_5 (by decide) ?_
    refine lv_icmp_gt (tgt := 23) hx hb dN_enzyme_6 (by decide) (fun c_2 => ?_) (fun c_2 => ?_)
    · refine lv_iconst (v := 0) hx hb dN_enzyme_23 (by decide) ?_
      exact ct_ret0 hx hb hr rfl hlocks hP hK hD hS (fun h => absurd (lt4_3 h.2.2.2) (Int32.not_le.mpr c_2)) rfl dN_enzyme_24
    · have h_k1 := (lt3_4 (Int32.not_lt.mp c_2) : kind < 4)
      refine lv_dload_n hx hb dN_enzyme_9 rfl (lv_at hl 2 rfl) ?_
      refine lv_dconst0 hx hb dN_enzyme_10 ?_
      refine ct_topd (y := 0) rfl ?_
      refine lv_dcmp hx hb dN_enzyme_11 ?_
      refine lv_if_le (tgt := 23) hx hb dN_enzyme_12 (by decide) (fun c_3 => ?_) (fun c_3 => ?_)
      · refine lv_iconst (v := 0) hx hb dN_enzyme_23 (by decide) ?_
        exact ct_ret0 hx hb hr rfl hlocks hP hK hD hS (fun h => (cv_l_le _).mp c_3 h.1) rfl dN_enzyme_24
      · have h_am0 := (Classical.not_not.mp fun h => c_3 ((cv_l_le _).mpr h) : FP.dcmp am 0 = some .gt)
        refine lv_dload_n hx hb dN_enzyme_15 rfl (lv_at hl 2 rfl) ?_
        refine lv_ldc2d hx hb hown (hts _ tw_d_N_30) dN_enzyme_16 ?_
        refine lv_dcmp hx hb dN_enzyme_19 ?_
        refine lv_if_le (tgt := 25) hx hb dN_enzyme_20 (by decide) (fun c_4 => ?_) (fun c_4 => ?_)
        · have h_am1 := ((cv_l_le _).mp c_4 : ¬ FP.dcmp am 4652007308841189376 = some .gt)
          have hz : ezOK kind am := ⟨h_am0, h_am1, Int32.not_lt.mp h_k0, h_k1⟩
          obtain ⟨k, hk, rfl⟩ := nI_of (x := kind) h_k0
          have hk4 : k < 4 := (nI_ltI hk (by decide)).mp h_k1
          have hok9 := hok hz
          rw [nI_clamp hk] at hok9
          rw [nI_clamp hk]
          refine lv_aload_n hx hb dN_enzyme_25 rfl (lv_at hl 0 rfl) ?_
          refine va_get (D := (dC, dI)) (ci := 3) (v := .ref (ad 1)) (C := "MashEnzymesModel") (T := F_N) (N := 14) hx hb hts in_N hown hK hP 0 rfl rfl 0 (by decide) (hts _ tw_f_N_9) (fun _ h9 => h9) rfl dN_enzyme_26 ?_
          refine lv_bipush (v := 9) hx hb dN_enzyme_29 (by decide) ?_
          refine lv_iload_n hx hb dN_enzyme_31 rfl (lv_at hl 1 rfl) ?_
          refine lv_iadd hx hb dN_enzyme_32 ?_
          refine ct_topi (y := nI (9 + k)) (by rw [show (9 : Int32) = nI 9 from rfl, nI_add]) ?_
          refine lv_aload_n hx hb dN_enzyme_33 rfl (lv_at hl 0 rfl) ?_
          refine va_get (D := (dC, dI)) (ci := 3) (v := .ref (ad 1)) (C := "MashEnzymesModel") (T := F_N) (N := 14) hx hb hts in_N hown hK hP 0 rfl rfl 0 (by decide) (hts _ tw_f_N_9) (fun _ h9 => h9) rfl dN_enzyme_34 ?_
          refine lv_bipush (v := 9) hx hb dN_enzyme_37 (by decide) ?_
          refine lv_iload_n hx hb dN_enzyme_39 rfl (lv_at hl 1 rfl) ?_
          refine lv_iadd hx hb dN_enzyme_40 ?_
          refine ct_topi (y := nI (9 + k)) (by rw [show (9 : Int32) = nI 9 from rfl, nI_add]) ?_
          refine ct_dald (k := (9 + k)) (v := a (9 + k)) hx hb hK hP 1 0 rfl rfl (vp_in_nI (by omega) (by decide)) (nI_clamp (by omega)) (rfl) dN_enzyme_41 ?_
          refine lv_dload_n hx hb dN_enzyme_42 rfl (lv_at hl 2 rfl) ?_
          refine lv_dadd hx hb dN_enzyme_43 (hok9) ?_
          refine ct_dast (k := (9 + k)) (w1 := (wN ad cA (vf_upd a (9 + k) (FP.dadd (a (9 + k)) am)) Tm Ac gt lt ts nw st hs ht dc pa ib ac)) hx hb hK hP hD hS 1 0 rfl rfl (vp_in_nI (by omega) (by decide)) (nI_clamp (by omega)) (rfl) dN_enzyme_44 (fun H locs hP hD hS => ?_)
          refine lv_iconst (v := 1) hx hb dN_enzyme_45 (by decide) ?_
          exact ct_ret1 hx hb hr rfl hlocks hP hK hD hS hz rfl dN_enzyme_46
        · refine lv_iconst (v := 0) hx hb dN_enzyme_23 (by decide) ?_
          exact ct_ret0 hx hb hr rfl hlocks hP hK hD hS (fun h => h.2.1 (Classical.not_not.mp fun h9 => c_4 ((cv_l_le _).mpr h9))) rfl dN_enzyme_24

set_option maxHeartbeats 4000000 in
set_option maxRecDepth 100000 in
/-- step -/
theorem cN_step (l : Launch) (dC : Nat → ClassId) (dI : Nat → Nat → Nat) (tt : Nat → Nat) (sz : Nat) (ad : Nat → Nat) (cA : Nat → ClassId) (a : Nat → UInt64) (Tm Ac : UInt64) (gt lt : Int32) (ts : UInt64) (nw : Int32) (c0 : Nat) (hs : Nat → Int32) (ht : Nat → UInt64) (dc : Int32) (pa : Nat → UInt64) (ib : Nat → Int32) (ac : Nat → UInt64) (sec : Int32) (d : UInt64) (hc32 : c0 ≤ 32) (hnd : nNo d) : Ct l dC dI tt yN_step bN_step 5 (some .boolean) ({ frames := 0, cells := 0, slots := 0, locals := 0 }) (tN cA) [.ref (ad 0), .int sec, .double d] (wN ad cA a Tm Ac gt lt ts nw (nI c0) hs ht dc pa ib ac) sz (fun A => ctQc dC dI (tN cA) (stOK hs c0 nw sec d) 1 (wN ad cA a Tm Ac gt lt ts nw (nI (c0 + 1)) (upd hs c0 sec) (vf_upd ht c0 d) dc pa ib ac) 0 (wN ad cA a Tm Ac gt lt ts nw (nI c0) hs ht dc pa ib ac) A) := by
  refine ct_of (by decide) (Nat.le_of_ble_eq_true rfl) ?_
  intro p e s m below meth c A ls hx hb hr hts hown hml hlocks hnm hA hS hP hK hD hT hl
  have hl : lv_has ls 5 [(0, .ref (ad 0)), (1, .int sec), (2, .double d)] := hl
  have htp := tpOK_iff (hnd 0 (by decide)) (hnd _ (by decide) : FP.dcmp d 4636737291354636288 ≠ none)
  refine lv_iload_n hx hb dN_step_0 rfl (lv_at hl 1 rfl) ?_
  refine lv_aload_n hx hb dN_step_1 rfl (lv_at hl 0 rfl) ?_
  refine va_get (D := (dC, dI)) (ci := 3) (v := .int nw) (C := "MashEnzymesModel") (T := F_N) (N := 14) hx hb hts in_N hown hK hP 0 rfl rfl 6 (by decide) (hts _ tw_f_N_71) (fun _ h9 => h9) rfl dN_step_2 ?_
  refine lv_icmp_le (tgt := 34) hx hb dN_step_5 (by decide) (fun c_1 => ?_) (fun c_1 => ?_)
  · refine lv_iconst (v := 0) hx hb dN_step_34 (by decide) ?_
    refine lv_istore (lv' := [(4, .int 0), (0, .ref (ad 0)), (1, .int sec), (2, .double d)]) hx hb dN_step_35 hl (by decide) rfl (fun ls hl => ?_)
    refine lv_iload hx hb dN_step_37 (lv_at hl 0 rfl) ?_
    refine lv_if_eq (tgt := 71) hx hb dN_step_39 (by decide) (fun c_2 => ?_) (fun c_2 => ?_)
    · refine lv_iconst (v := 0) hx hb dN_step_71 (by decide) ?_
      exact ct_ret0 hx hb hr rfl hlocks hP hK hD hS (fun h => Int32.not_le.mpr h.1 c_1) rfl dN_step_72
    · exact absurd rfl c_2
  · have h_1 := (Int32.not_le.mp c_1 : nw < sec)
    refine lv_aload_n hx hb dN_step_8 rfl (lv_at hl 0 rfl) ?_
    refine va_get (D := (dC, dI)) (ci := 3) (v := .int (nI c0)) (C := "MashEnzymesModel") (T := F_N) (N := 14) hx hb hts in_N hown hK hP 0 rfl rfl 7 (by decide) (hts _ tw_f_N_75) (fun _ h9 => h9) rfl dN_step_9 ?_
    refine lv_if_eq (tgt := 30) hx hb dN_step_12 (by decide) (fun c_3 => ?_) (fun c_3 => ?_)
    · have hc0 : c0 = 0 := (nI_eq (a := c0) (b := 0) (by omega) (by decide)).mp c_3
      refine lv_iconst (v := 1) hx hb dN_step_30 (by decide) ?_
      refine lv_goto (tgt := 35) hx hb dN_step_31 (by decide) ?_
      refine lv_istore (lv' := [(4, .int 1), (0, .ref (ad 0)), (1, .int sec), (2, .double d)]) hx hb dN_step_35 hl (by decide) rfl (fun ls hl => ?_)
      refine lv_iload hx hb dN_step_37 (lv_at hl 0 rfl) ?_
      refine lv_if_eq (tgt := 71) hx hb dN_step_39 (by decide) (fun c_4 => ?_) (fun c_4 => ?_)
      · exact (absurd c_4 (by decide))
      · refine lv_iload_n hx hb dN_step_42 rfl (lv_at hl 2 rfl) ?_
        refine lv_ldc hx hb hown (hts _ tw_k_N_78) dN_step_43 ?_
        refine lv_icmp_gt (tgt := 71) hx hb dN_step_45 (by decide) (fun c_5 => ?_) (fun c_5 => ?_)
        · refine lv_iconst (v := 0) hx hb dN_step_71 (by decide) ?_
          exact ct_ret0 hx hb hr rfl hlocks hP hK hD hS (fun h => Int32.not_lt.mpr h.2.1 c_5) rfl dN_step_72
        · have h_2 := (Int32.not_lt.mp c_5 : sec ≤ 1000000)
          refine lv_dload_n hx hb dN_step_48 rfl (lv_at hl 3 rfl) ?_
          refine lv_dconst0 hx hb dN_step_49 ?_
          refine ct_topd (y := 0) rfl ?_
          refine lv_dcmp hx hb dN_step_50 ?_
          refine lv_if_lt (tgt := 71) hx hb dN_step_51 (by decide) (fun c_6 => ?_) (fun c_6 => ?_)
          · refine lv_iconst (v := 0) hx hb dN_step_71 (by decide) ?_
            exact ct_ret0 hx hb hr rfl hlocks hP hK hD hS (fun h => (htp.mp h.2.2.1).1 ((cvn_l (hnd 0 (by decide))).mp c_6)) rfl dN_step_72
          · have h_d0 := (fun h => c_6 ((cvn_l (hnd 0 (by decide))).mpr h) : ¬ FP.dcmp d 0 = some .lt)
            refine lv_dload_n hx hb dN_step_54 rfl (lv_at hl 3 rfl) ?_
            refine lv_ldc2d hx hb hown (hts _ tw_d_N_56) dN_step_55 ?_
            refine lv_dcmp hx hb dN_step_58 ?_
            refine lv_if_gt (tgt := 71) hx hb dN_step_59 (by decide) (fun c_7 => ?_) (fun c_7 => ?_)
            · refine lv_iconst (v := 0) hx hb dN_step_71 (by decide) ?_
              exact ct_ret0 hx hb hr rfl hlocks hP hK hD hS (fun h => (htp.mp h.2.2.1).2 ((cv_l_gt _).mp c_7)) rfl dN_step_72
            · have h_d1 := (fun h => c_7 ((cv_l_gt _).mpr h) : ¬ FP.dcmp d 4636737291354636288 = some .gt)
              refine lv_aload_n hx hb dN_step_62 rfl (lv_at hl 1 rfl) ?_
              refine va_get (D := (dC, dI)) (ci := 3) (v := .int (nI c0)) (C := "MashEnzymesModel") (T := F_N) (N := 14) hx hb hts in_N hown hK hP 0 rfl rfl 7 (by decide) (hts _ tw_f_N_75) (fun _ h9 => h9) rfl dN_step_63 ?_
              refine lv_bipush (v := 32) hx hb dN_step_66 (by decide) ?_
              refine lv_icmp_ne (tgt := 73) hx hb dN_step_68 (by decide) (fun c_8 => ?_) (fun c_8 => ?_)
              · have hc9 := (Nat.lt_of_le_of_ne hc32 fun h => c_8 ((nI_eq (a := c0) (b := 32) (by omega) (by decide)).mpr h) : c0 < 32)
                have hz : stOK hs c0 nw sec d := ⟨h_1, h_2, htp.mpr ⟨h_d0, h_d1⟩, hc9, fun h => absurd h (by omega)⟩
                refine lv_aload_n hx hb dN_step_73 rfl (lv_at hl 1 rfl) ?_
                refine va_get (D := (dC, dI)) (ci := 3) (v := .ref (ad 2)) (C := "MashEnzymesModel") (T := F_N) (N := 14) hx hb hts in_N hown hK hP 0 rfl rfl 8 (by decide) (hts _ tw_f_N_13) (fun _ h9 => h9) rfl dN_step_74 ?_
                refine lv_aload_n hx hb dN_step_77 rfl (lv_at hl 1 rfl) ?_
                refine va_get (D := (dC, dI)) (ci := 3) (v := .int (nI c0)) (C := "MashEnzymesModel") (T := F_N) (N := 14) hx hb hts in_N hown hK hP 0 rfl rfl 7 (by decide) (hts _ tw_f_N_75) (fun _ h9 => h9) rfl dN_step_78 ?_
                refine lv_iload_n hx hb dN_step_81 rfl (lv_at hl 2 rfl) ?_
                refine ct_iast (k := c0) (w1 := (wN ad cA a Tm Ac gt lt ts nw (nI c0) (upd hs c0 sec) ht dc pa ib ac)) hx hb hK hP hD hS 2 1 rfl rfl (vp_in_nI hc9 (by decide)) (nI_clamp (by omega)) (rfl) dN_step_82 (fun H locs hP hD hS => ?_)
                refine lv_aload_n hx hb dN_step_83 rfl (lv_at hl 1 rfl) ?_
                refine va_get (D := (dC, dI)) (ci := 3) (v := .ref (ad 3)) (C := "MashEnzymesModel") (T := F_N) (N := 14) hx hb hts in_N hown hK hP 0 rfl rfl 9 (by decide) (hts _ tw_f_N_17) (fun _ h9 => h9) rfl dN_step_84 ?_
                refine lv_aload_n hx hb dN_step_87 rfl (lv_at hl 1 rfl) ?_
                refine va_get (D := (dC, dI)) (ci := 3) (v := .int (nI c0)) (C := "MashEnzymesModel") (T := F_N) (N := 14) hx hb hts in_N hown hK hP 0 rfl rfl 7 (by decide) (hts _ tw_f_N_75) (fun _ h9 => h9) rfl dN_step_88 ?_
                refine lv_dload_n hx hb dN_step_91 rfl (lv_at hl 3 rfl) ?_
                refine ct_dast (k := c0) (w1 := (wN ad cA a Tm Ac gt lt ts nw (nI c0) (upd hs c0 sec) (vf_upd ht c0 d) dc pa ib ac)) hx hb hK hP hD hS 3 2 rfl rfl (vp_in_nI hc9 (by decide)) (nI_clamp (by omega)) (rfl) dN_step_92 (fun H locs hP hD hS => ?_)
                refine lv_aload_n hx hb dN_step_93 rfl (lv_at hl 1 rfl) ?_
                refine lv_dup hx hb dN_step_94 rfl ?_
                refine va_get (D := (dC, dI)) (ci := 3) (v := .int (nI c0)) (C := "MashEnzymesModel") (T := F_N) (N := 14) hx hb hts in_N hown hK hP 0 rfl rfl 7 (by decide) (hts _ tw_f_N_75) (fun _ h9 => h9) rfl dN_step_95 ?_
                refine lv_iconst (v := 1) hx hb dN_step_98 (by decide) ?_
                refine lv_iadd hx hb dN_step_99 ?_
                refine ct_topi (y := nI (c0 + 1)) (nI_1 c0) ?_
                refine va_put (D := (dC, dI)) (ci := 3) (v := .int (nI (c0 + 1))) (ty := .int) (C := "MashEnzymesModel") (T := F_N) (N := 14) hx hb hts in_N t_N t_N_ok n_N hown hK hP hD hS 0 rfl rfl 7 (by decide) (hts _ tw_f_N_75) (fun _ h9 => h9) rfl (by decide +kernel) rfl rfl (Nat.le_of_ble_eq_true rfl) dN_step_100 (fun H locs hP hD hS => ?_)
                have hP : va_P (dC, dI) cls (wN ad cA a Tm Ac gt lt ts nw (nI (c0 + 1)) (upd hs c0 sec) (vf_upd ht c0 d) dc pa ib ac) H := hP
                have hD : va_D A (wN ad cA a Tm Ac gt lt ts nw (nI (c0 + 1)) (upd hs c0 sec) (vf_upd ht c0 d) dc pa ib ac) := hD
                refine lv_iconst (v := 1) hx hb dN_step_103 (by decide) ?_
                exact ct_ret1 hx hb hr rfl hlocks hP hK hD hS hz rfl dN_step_104
              · refine lv_iconst (v := 0) hx hb dN_step_71 (by decide) ?_
                exact ct_ret0 hx hb hr rfl hlocks hP hK hD hS (fun h => absurd h.2.2.2.1 (by have := (nI_eq (a := c0) (b := 32) (by omega) (by decide)).mp c_8; omega)) rfl dN_step_72
    · have hc0 : 0 < c0 := Nat.pos_of_ne_zero fun h => c_3 ((nI_eq (a := c0) (b := 0) (by omega) (by decide)).mpr h)
      refine lv_iload_n hx hb dN_step_15 rfl (lv_at hl 1 rfl) ?_
      refine lv_aload_n hx hb dN_step_16 rfl (lv_at hl 0 rfl) ?_
      refine va_get (D := (dC, dI)) (ci := 3) (v := .ref (ad 2)) (C := "MashEnzymesModel") (T := F_N) (N := 14) hx hb hts in_N hown hK hP 0 rfl rfl 8 (by decide) (hts _ tw_f_N_13) (fun _ h9 => h9) rfl dN_step_17 ?_
      refine lv_aload_n hx hb dN_step_20 rfl (lv_at hl 0 rfl) ?_
      refine va_get (D := (dC, dI)) (ci := 3) (v := .int (nI c0)) (C := "MashEnzymesModel") (T := F_N) (N := 14) hx hb hts in_N hown hK hP 0 rfl rfl 7 (by decide) (hts _ tw_f_N_75) (fun _ h9 => h9) rfl dN_step_21 ?_
      refine lv_iconst (v := 1) hx hb dN_step_24 (by decide) ?_
      refine lv_isub hx hb dN_step_25 ?_
      refine ct_topi (y := nI (c0 - 1)) (pk_sub hc0) ?_
      refine ct_iald (k := (c0 - 1)) (v := hs (c0 - 1)) hx hb hK hP 2 1 rfl rfl (vp_in_nI (by omega) (by decide)) (nI_clamp (by omega)) (rfl) dN_step_26 ?_
      refine lv_icmp_le (tgt := 34) hx hb dN_step_27 (by decide) (fun c_9 => ?_) (fun c_9 => ?_)
      · refine lv_iconst (v := 0) hx hb dN_step_34 (by decide) ?_
        refine lv_istore (lv' := [(4, .int 0), (0, .ref (ad 0)), (1, .int sec), (2, .double d)]) hx hb dN_step_35 hl (by decide) rfl (fun ls hl => ?_)
        refine lv_iload hx hb dN_step_37 (lv_at hl 0 rfl) ?_
        refine lv_if_eq (tgt := 71) hx hb dN_step_39 (by decide) (fun c_10 => ?_) (fun c_10 => ?_)
        · refine lv_iconst (v := 0) hx hb dN_step_71 (by decide) ?_
          exact ct_ret0 hx hb hr rfl hlocks hP hK hD hS (fun h => Int32.not_le.mpr (h.2.2.2.2 hc0) c_9) rfl dN_step_72
        · exact absurd rfl c_10
      · have h_3 := (Int32.not_le.mp c_9 : hs (c0 - 1) < sec)
        refine lv_iconst (v := 1) hx hb dN_step_30 (by decide) ?_
        refine lv_goto (tgt := 35) hx hb dN_step_31 (by decide) ?_
        refine lv_istore (lv' := [(4, .int 1), (0, .ref (ad 0)), (1, .int sec), (2, .double d)]) hx hb dN_step_35 hl (by decide) rfl (fun ls hl => ?_)
        refine lv_iload hx hb dN_step_37 (lv_at hl 0 rfl) ?_
        refine lv_if_eq (tgt := 71) hx hb dN_step_39 (by decide) (fun c_11 => ?_) (fun c_11 => ?_)
        · exact (absurd c_11 (by decide))
        · refine lv_iload_n hx hb dN_step_42 rfl (lv_at hl 2 rfl) ?_
          refine lv_ldc hx hb hown (hts _ tw_k_N_78) dN_step_43 ?_
          refine lv_icmp_gt (tgt := 71) hx hb dN_step_45 (by decide) (fun c_12 => ?_) (fun c_12 => ?_)
          · refine lv_iconst (v := 0) hx hb dN_step_71 (by decide) ?_
            exact ct_ret0 hx hb hr rfl hlocks hP hK hD hS (fun h => Int32.not_lt.mpr h.2.1 c_12) rfl dN_step_72
          · have h_2 := (Int32.not_lt.mp c_12 : sec ≤ 1000000)
            refine lv_dload_n hx hb dN_step_48 rfl (lv_at hl 3 rfl) ?_
            refine lv_dconst0 hx hb dN_step_49 ?_
            refine ct_topd (y := 0) rfl ?_
            refine lv_dcmp hx hb dN_step_50 ?_
            refine lv_if_lt (tgt := 71) hx hb dN_step_51 (by decide) (fun c_13 => ?_) (fun c_13 => ?_)
            · refine lv_iconst (v := 0) hx hb dN_step_71 (by decide) ?_
              exact ct_ret0 hx hb hr rfl hlocks hP hK hD hS (fun h => (htp.mp h.2.2.1).1 ((cvn_l (hnd 0 (by decide))).mp c_13)) rfl dN_step_72
            · have h_d0 := (fun h => c_13 ((cvn_l (hnd 0 (by decide))).mpr h) : ¬ FP.dcmp d 0 = some .lt)
              refine lv_dload_n hx hb dN_step_54 rfl (lv_at hl 3 rfl) ?_
              refine lv_ldc2d hx hb hown (hts _ tw_d_N_56) dN_step_55 ?_
              refine lv_dcmp hx hb dN_step_58 ?_
              refine lv_if_gt (tgt := 71) hx hb dN_step_59 (by decide) (fun c_14 => ?_) (fun c_14 => ?_)
              · refine lv_iconst (v := 0) hx hb dN_step_71 (by decide) ?_
                exact ct_ret0 hx hb hr rfl hlocks hP hK hD hS (fun h => (htp.mp h.2.2.1).2 ((cv_l_gt _).mp c_14)) rfl dN_step_72
              · have h_d1 := (fun h => c_14 ((cv_l_gt _).mpr h) : ¬ FP.dcmp d 4636737291354636288 = some .gt)
                refine lv_aload_n hx hb dN_step_62 rfl (lv_at hl 1 rfl) ?_
                refine va_get (D := (dC, dI)) (ci := 3) (v := .int (nI c0)) (C := "MashEnzymesModel") (T := F_N) (N := 14) hx hb hts in_N hown hK hP 0 rfl rfl 7 (by decide) (hts _ tw_f_N_75) (fun _ h9 => h9) rfl dN_step_63 ?_
                refine lv_bipush (v := 32) hx hb dN_step_66 (by decide) ?_
                refine lv_icmp_ne (tgt := 73) hx hb dN_step_68 (by decide) (fun c_15 => ?_) (fun c_15 => ?_)
                · have hc9 := (Nat.lt_of_le_of_ne hc32 fun h => c_15 ((nI_eq (a := c0) (b := 32) (by omega) (by decide)).mpr h) : c0 < 32)
                  have hz : stOK hs c0 nw sec d := ⟨h_1, h_2, htp.mpr ⟨h_d0, h_d1⟩, hc9, fun _ => h_3⟩
                  refine lv_aload_n hx hb dN_step_73 rfl (lv_at hl 1 rfl) ?_
                  refine va_get (D := (dC, dI)) (ci := 3) (v := .ref (ad 2)) (C := "MashEnzymesModel") (T := F_N) (N := 14) hx hb hts in_N hown hK hP 0 rfl rfl 8 (by decide) (hts _ tw_f_N_13) (fun _ h9 => h9) rfl dN_step_74 ?_
                  refine lv_aload_n hx hb dN_step_77 rfl (lv_at hl 1 rfl) ?_
                  refine va_get (D := (dC, dI)) (ci := 3) (v := .int (nI c0)) (C := "MashEnzymesModel") (T := F_N) (N := 14) hx hb hts in_N hown hK hP 0 rfl rfl 7 (by decide) (hts _ tw_f_N_75) (fun _ h9 => h9) rfl dN_step_78 ?_
                  refine lv_iload_n hx hb dN_step_81 rfl (lv_at hl 2 rfl) ?_
                  refine ct_iast (k := c0) (w1 := (wN ad cA a Tm Ac gt lt ts nw (nI c0) (upd hs c0 sec) ht dc pa ib ac)) hx hb hK hP hD hS 2 1 rfl rfl (vp_in_nI hc9 (by decide)) (nI_clamp (by omega)) (rfl) dN_step_82 (fun H locs hP hD hS => ?_)
                  refine lv_aload_n hx hb dN_step_83 rfl (lv_at hl 1 rfl) ?_
                  refine va_get (D := (dC, dI)) (ci := 3) (v := .ref (ad 3)) (C := "MashEnzymesModel") (T := F_N) (N := 14) hx hb hts in_N hown hK hP 0 rfl rfl 9 (by decide) (hts _ tw_f_N_17) (fun _ h9 => h9) rfl dN_step_84 ?_
                  refine lv_aload_n hx hb dN_step_87 rfl (lv_at hl 1 rfl) ?_
                  refine va_get (D := (dC, dI)) (ci := 3) (v := .int (nI c0)) (C := "MashEnzymesModel") (T := F_N) (N := 14) hx hb hts in_N hown hK hP 0 rfl rfl 7 (by decide) (hts _ tw_f_N_75) (fun _ h9 => h9) rfl dN_step_88 ?_
                  refine lv_dload_n hx hb dN_step_91 rfl (lv_at hl 3 rfl) ?_
                  refine ct_dast (k := c0) (w1 := (wN ad cA a Tm Ac gt lt ts nw (nI c0) (upd hs c0 sec) (vf_upd ht c0 d) dc pa ib ac)) hx hb hK hP hD hS 3 2 rfl rfl (vp_in_nI hc9 (by decide)) (nI_clamp (by omega)) (rfl) dN_step_92 (fun H locs hP hD hS => ?_)
                  refine lv_aload_n hx hb dN_step_93 rfl (lv_at hl 1 rfl) ?_
                  refine lv_dup hx hb dN_step_94 rfl ?_
                  refine va_get (D := (dC, dI)) (ci := 3) (v := .int (nI c0)) (C := "MashEnzymesModel") (T := F_N) (N := 14) hx hb hts in_N hown hK hP 0 rfl rfl 7 (by decide) (hts _ tw_f_N_75) (fun _ h9 => h9) rfl dN_step_95 ?_
                  refine lv_iconst (v := 1) hx hb dN_step_98 (by decide) ?_
                  refine lv_iadd hx hb dN_step_99 ?_
                  refine ct_topi (y := nI (c0 + 1)) (nI_1 c0) ?_
                  refine va_put (D := (dC, dI)) (ci := 3) (v := .int (nI (c0 + 1))) (ty := .int) (C := "MashEnzymesModel") (T := F_N) (N := 14) hx hb hts in_N t_N t_N_ok n_N hown hK hP hD hS 0 rfl rfl 7 (by decide) (hts _ tw_f_N_75) (fun _ h9 => h9) rfl (by decide +kernel) rfl rfl (Nat.le_of_ble_eq_true rfl) dN_step_100 (fun H locs hP hD hS => ?_)
                  have hP : va_P (dC, dI) cls (wN ad cA a Tm Ac gt lt ts nw (nI (c0 + 1)) (upd hs c0 sec) (vf_upd ht c0 d) dc pa ib ac) H := hP
                  have hD : va_D A (wN ad cA a Tm Ac gt lt ts nw (nI (c0 + 1)) (upd hs c0 sec) (vf_upd ht c0 d) dc pa ib ac) := hD
                  refine lv_iconst (v := 1) hx hb dN_step_103 (by decide) ?_
                  exact ct_ret1 hx hb hr rfl hlocks hP hK hD hS hz rfl dN_step_104
                · refine lv_iconst (v := 0) hx hb dN_step_71 (by decide) ?_
                  exact ct_ret0 hx hb hr rfl hlocks hP hK hD hS (fun h => absurd h.2.2.2.1 (by have := (nI_eq (a := c0) (b := 32) (by omega) (by decide)).mp c_15; omega)) rfl dN_step_72

set_option maxHeartbeats 4000000 in
set_option maxRecDepth 100000 in
/-- liquor -/
theorem cN_liquor (l : Launch) (dC : Nat → ClassId) (dI : Nat → Nat → Nat) (tt : Nat → Nat) (sz : Nat) (ad : Nat → Nat) (cA : Nat → ClassId) (a : Nat → UInt64) (Tm Ac : UInt64) (gt lt : Int32) (ts : UInt64) (nw st : Int32) (hs : Nat → Int32) (ht : Nat → UInt64) (dc : Int32) (pa : Nat → UInt64) (ib : Nat → Int32) (ac : Nat → UInt64) (li d ac9 : UInt64) (hnd : nNo d) (hnc : nNo ac9) (hok : lqOK li d ac9 → okM Tm (a 0) d li ∧ okM Ac (a 0) ac9 li) (hgt : lqOK li d ac9 → FP.dcmp (FP.dadd (a 0) li) 0 = some .gt) : Ct l dC dI tt yN_liquor bN_liquor 7 (some .boolean) ({ frames := 0, cells := 0, slots := 0, locals := 0 }) (tN cA) [.ref (ad 0), .double li, .double d, .double ac9] (wN ad cA a Tm Ac gt lt ts nw st hs ht dc pa ib ac) sz (fun A => ctQc dC dI (tN cA) (lqOK li d ac9) 1 (wN ad cA (vf_upd a 0 (FP.dadd (a 0) li)) (mixD Tm (a 0) d li) (mixD Ac (a 0) ac9 li) gt 1 ts nw st hs ht dc pa ib ac) 0 (wN ad cA a Tm Ac gt lt ts nw st hs ht dc pa ib ac) A) := by
  refine ct_of (by decide) (Nat.le_of_ble_eq_true rfl) ?_
  intro p e s m below meth c A ls hx hb hr hts hown hml hlocks hnm hA hS hP hK hD hT hl
  have hl : lv_has ls 7 [(0, .ref (ad 0)), (1, .double li), (3, .double d), (5, .double ac9)] := hl
  have htp := tpOK_iff (hnd 0 (by decide)) (hnd _ (by decide) : FP.dcmp d 4636737291354636288 ≠ none)
  refine lv_dload_n hx hb dN_liquor_0 rfl (lv_at hl 1 rfl) ?_
  refine lv_dconst0 hx hb dN_liquor_1 ?_
  refine ct_topd (y := 0) rfl ?_
  refine lv_dcmp hx hb dN_liquor_2 ?_
  refine lv_if_le (tgt := 46) hx hb dN_liquor_3 (by decide) (fun c_1 => ?_) (fun c_1 => ?_)
  · refine lv_iconst (v := 0) hx hb dN_liquor_46 (by decide) ?_
    exact ct_ret0 hx hb hr rfl hlocks hP hK hD hS (fun h => (cv_l_le _).mp c_1 h.1) rfl dN_liquor_47
  · have h_li0 := (Classical.not_not.mp fun h => c_1 ((cv_l_le _).mpr h) : FP.dcmp li 0 = some .gt)
    refine lv_dload_n hx hb dN_liquor_6 rfl (lv_at hl 1 rfl) ?_
    refine lv_ldc2d hx hb hown (hts _ tw_d_N_54) dN_liquor_7 ?_
    refine lv_dcmp hx hb dN_liquor_10 ?_
    refine lv_if_gt (tgt := 46) hx hb dN_liquor_11 (by decide) (fun c_2 => ?_) (fun c_2 => ?_)
    · refine lv_iconst (v := 0) hx hb dN_liquor_46 (by decide) ?_
      exact ct_ret0 hx hb hr rfl hlocks hP hK hD hS (fun h => h.2.1 ((cv_l_gt _).mp c_2)) rfl dN_liquor_47
    · have h_li1 := (fun h => c_2 ((cv_l_gt _).mpr h) : ¬ FP.dcmp li 4666723172467343360 = some .gt)
      refine lv_dload_n hx hb dN_liquor_14 rfl (lv_at hl 2 rfl) ?_
      refine lv_dconst0 hx hb dN_liquor_15 ?_
      refine ct_topd (y := 0) rfl ?_
      refine lv_dcmp hx hb dN_liquor_16 ?_
      refine lv_if_lt (tgt := 46) hx hb dN_liquor_17 (by decide) (fun c_3 => ?_) (fun c_3 => ?_)
      · refine lv_iconst (v := 0) hx hb dN_liquor_46 (by decide) ?_
        exact ct_ret0 hx hb hr rfl hlocks hP hK hD hS (fun h => (htp.mp h.2.2.1).1 ((cvn_l (hnd 0 (by decide))).mp c_3)) rfl dN_liquor_47
      · have h_d0 := (fun h => c_3 ((cvn_l (hnd 0 (by decide))).mpr h) : ¬ FP.dcmp d 0 = some .lt)
        refine lv_dload_n hx hb dN_liquor_20 rfl (lv_at hl 2 rfl) ?_
        refine lv_ldc2d hx hb hown (hts _ tw_d_N_56) dN_liquor_21 ?_
        refine lv_dcmp hx hb dN_liquor_24 ?_
        refine lv_if_gt (tgt := 46) hx hb dN_liquor_25 (by decide) (fun c_4 => ?_) (fun c_4 => ?_)
        · refine lv_iconst (v := 0) hx hb dN_liquor_46 (by decide) ?_
          exact ct_ret0 hx hb hr rfl hlocks hP hK hD hS (fun h => (htp.mp h.2.2.1).2 ((cv_l_gt _).mp c_4)) rfl dN_liquor_47
        · have h_d1 := (fun h => c_4 ((cv_l_gt _).mpr h) : ¬ FP.dcmp d 4636737291354636288 = some .gt)
          refine lv_dload hx hb dN_liquor_28 (lv_at hl 3 rfl) ?_
          refine lv_ldc2d hx hb hown (hts _ tw_d_N_58) dN_liquor_30 ?_
          refine lv_dcmp hx hb dN_liquor_33 ?_
          refine lv_if_lt (tgt := 46) hx hb dN_liquor_34 (by decide) (fun c_5 => ?_) (fun c_5 => ?_)
          · refine lv_iconst (v := 0) hx hb dN_liquor_46 (by decide) ?_
            exact ct_ret0 hx hb hr rfl hlocks hP hK hD hS (fun h => h.2.2.2.1 ((cvn_l (hnc _ (by decide))).mp c_5)) rfl dN_liquor_47
          · have h_a1 := (fun h => c_5 ((cvn_l (hnc _ (by decide))).mpr h) : ¬ FP.dcmp ac9 4613937818241073152 = some .lt)
            refine lv_dload hx hb dN_liquor_37 (lv_at hl 3 rfl) ?_
            refine lv_ldc2d hx hb hown (hts _ tw_d_N_60) dN_liquor_39 ?_
            refine lv_dcmp hx hb dN_liquor_42 ?_
            refine lv_if_le (tgt := 48) hx hb dN_liquor_43 (by decide) (fun c_6 => ?_) (fun c_6 => ?_)
            · have h_a2 := ((cv_l_le _).mp c_6 : ¬ FP.dcmp ac9 4620693217682128896 = some .gt)
              have hlq : lqOK li d ac9 := ⟨h_li0, h_li1, htp.mpr ⟨h_d0, h_d1⟩, h_a1, h_a2⟩
              have hok9 := hok hlq
              have hg := hgt hlq
              refine lv_aload_n hx hb dN_liquor_48 rfl (lv_at hl 0 rfl) ?_
              refine lv_aload_n hx hb dN_liquor_49 rfl (lv_at hl 0 rfl) ?_
              refine va_get (D := (dC, dI)) (ci := 3) (v := .double Tm) (C := "MashEnzymesModel") (T := F_N) (N := 14) hx hb hts in_N hown hK hP 0 rfl rfl 1 (by decide) (hts _ tw_f_N_62) (fun _ h9 => h9) rfl dN_liquor_50 ?_
              refine lv_aload_n hx hb dN_liquor_53 rfl (lv_at hl 0 rfl) ?_
              refine va_get (D := (dC, dI)) (ci := 3) (v := .ref (ad 1)) (C := "MashEnzymesModel") (T := F_N) (N := 14) hx hb hts in_N hown hK hP 0 rfl rfl 0 (by decide) (hts _ tw_f_N_9) (fun _ h9 => h9) rfl dN_liquor_54 ?_
              refine lv_iconst (v := 0) hx hb dN_liquor_57 (by decide) ?_
              refine ct_dald (k := 0) (v := a 0) hx hb hK hP 1 0 rfl rfl (by unfold vp_in; decide) (rfl) (rfl) dN_liquor_58 ?_
              refine lv_dmul hx hb dN_liquor_59 ((hok9.1.2 hg).1) ?_
              refine lv_dload_n hx hb dN_liquor_60 rfl (lv_at hl 2 rfl) ?_
              refine lv_dload_n hx hb dN_liquor_61 rfl (lv_at hl 1 rfl) ?_
              refine lv_dmul hx hb dN_liquor_62 ((hok9.1.2 hg).2.1) ?_
              refine lv_dadd hx hb dN_liquor_63 ((hok9.1.2 hg).2.2.1) ?_
              refine lv_aload_n hx hb dN_liquor_64 rfl (lv_at hl 0 rfl) ?_
              refine va_get (D := (dC, dI)) (ci := 3) (v := .ref (ad 1)) (C := "MashEnzymesModel") (T := F_N) (N := 14) hx hb hts in_N hown hK hP 0 rfl rfl 0 (by decide) (hts _ tw_f_N_9) (fun _ h9 => h9) rfl dN_liquor_65 ?_
              refine lv_iconst (v := 0) hx hb dN_liquor_68 (by decide) ?_
              refine ct_dald (k := 0) (v := a 0) hx hb hK hP 1 0 rfl rfl (by unfold vp_in; decide) (rfl) (rfl) dN_liquor_69 ?_
              refine lv_dload_n hx hb dN_liquor_70 rfl (lv_at hl 1 rfl) ?_
              refine lv_dadd hx hb dN_liquor_71 (hok9.1.1) ?_
              refine lv_ddiv hx hb dN_liquor_72 ((hok9.1.2 hg).2.2.2) ?_
              refine ct_topd (y := mixD Tm (a 0) d li) (by unfold mixD; rw [if_pos hg]) ?_
              refine va_put (D := (dC, dI)) (ci := 3) (v := .double (mixD Tm (a 0) d li)) (ty := .double) (C := "MashEnzymesModel") (T := F_N) (N := 14) hx hb hts in_N t_N t_N_ok n_N hown hK hP hD hS 0 rfl rfl 1 (by decide) (hts _ tw_f_N_62) (fun _ h9 => h9) rfl (by decide +kernel) rfl rfl (Nat.le_of_ble_eq_true rfl) dN_liquor_73 (fun H locs hP hD hS => ?_)
              have hP : va_P (dC, dI) cls (wN ad cA a (mixD Tm (a 0) d li) Ac gt lt ts nw st hs ht dc pa ib ac) H := hP
              have hD : va_D A (wN ad cA a (mixD Tm (a 0) d li) Ac gt lt ts nw st hs ht dc pa ib ac) := hD
              refine lv_aload_n hx hb dN_liquor_76 rfl (lv_at hl 0 rfl) ?_
              refine lv_aload_n hx hb dN_liquor_77 rfl (lv_at hl 0 rfl) ?_
              refine va_get (D := (dC, dI)) (ci := 3) (v := .double Ac) (C := "MashEnzymesModel") (T := F_N) (N := 14) hx hb hts in_N hown hK hP 0 rfl rfl 2 (by decide) (hts _ tw_f_N_65) (fun _ h9 => h9) rfl dN_liquor_78 ?_
              refine lv_aload_n hx hb dN_liquor_81 rfl (lv_at hl 0 rfl) ?_
              refine va_get (D := (dC, dI)) (ci := 3) (v := .ref (ad 1)) (C := "MashEnzymesModel") (T := F_N) (N := 14) hx hb hts in_N hown hK hP 0 rfl rfl 0 (by decide) (hts _ tw_f_N_9) (fun _ h9 => h9) rfl dN_liquor_82 ?_
              refine lv_iconst (v := 0) hx hb dN_liquor_85 (by decide) ?_
              refine ct_dald (k := 0) (v := a 0) hx hb hK hP 1 0 rfl rfl (by unfold vp_in; decide) (rfl) (rfl) dN_liquor_86 ?_
              refine lv_dmul hx hb dN_liquor_87 ((hok9.2.2 hg).1) ?_
              refine lv_dload hx hb dN_liquor_88 (lv_at hl 3 rfl) ?_
              refine lv_dload_n hx hb dN_liquor_90 rfl (lv_at hl 1 rfl) ?_
              refine lv_dmul hx hb dN_liquor_91 ((hok9.2.2 hg).2.1) ?_
              refine lv_dadd hx hb dN_liquor_92 ((hok9.2.2 hg).2.2.1) ?_
              refine lv_aload_n hx hb dN_liquor_93 rfl (lv_at hl 0 rfl) ?_
              refine va_get (D := (dC, dI)) (ci := 3) (v := .ref (ad 1)) (C := "MashEnzymesModel") (T := F_N) (N := 14) hx hb hts in_N hown hK hP 0 rfl rfl 0 (by decide) (hts _ tw_f_N_9) (fun _ h9 => h9) rfl dN_liquor_94 ?_
              refine lv_iconst (v := 0) hx hb dN_liquor_97 (by decide) ?_
              refine ct_dald (k := 0) (v := a 0) hx hb hK hP 1 0 rfl rfl (by unfold vp_in; decide) (rfl) (rfl) dN_liquor_98 ?_
              refine lv_dload_n hx hb dN_liquor_99 rfl (lv_at hl 1 rfl) ?_
              refine lv_dadd hx hb dN_liquor_100 (hok9.1.1) ?_
              refine lv_ddiv hx hb dN_liquor_101 ((hok9.2.2 hg).2.2.2) ?_
              refine ct_topd (y := mixD Ac (a 0) ac9 li) (by unfold mixD; rw [if_pos hg]) ?_
              refine va_put (D := (dC, dI)) (ci := 3) (v := .double (mixD Ac (a 0) ac9 li)) (ty := .double) (C := "MashEnzymesModel") (T := F_N) (N := 14) hx hb hts in_N t_N t_N_ok n_N hown hK hP hD hS 0 rfl rfl 2 (by decide) (hts _ tw_f_N_65) (fun _ h9 => h9) rfl (by decide +kernel) rfl rfl (Nat.le_of_ble_eq_true rfl) dN_liquor_102 (fun H locs hP hD hS => ?_)
              have hP : va_P (dC, dI) cls (wN ad cA a (mixD Tm (a 0) d li) (mixD Ac (a 0) ac9 li) gt lt ts nw st hs ht dc pa ib ac) H := hP
              have hD : va_D A (wN ad cA a (mixD Tm (a 0) d li) (mixD Ac (a 0) ac9 li) gt lt ts nw st hs ht dc pa ib ac) := hD
              refine lv_aload_n hx hb dN_liquor_105 rfl (lv_at hl 0 rfl) ?_
              refine va_get (D := (dC, dI)) (ci := 3) (v := .ref (ad 1)) (C := "MashEnzymesModel") (T := F_N) (N := 14) hx hb hts in_N hown hK hP 0 rfl rfl 0 (by decide) (hts _ tw_f_N_9) (fun _ h9 => h9) rfl dN_liquor_106 ?_
              refine lv_iconst (v := 0) hx hb dN_liquor_109 (by decide) ?_
              refine lv_aload_n hx hb dN_liquor_110 rfl (lv_at hl 0 rfl) ?_
              refine va_get (D := (dC, dI)) (ci := 3) (v := .ref (ad 1)) (C := "MashEnzymesModel") (T := F_N) (N := 14) hx hb hts in_N hown hK hP 0 rfl rfl 0 (by decide) (hts _ tw_f_N_9) (fun _ h9 => h9) rfl dN_liquor_111 ?_
              refine lv_iconst (v := 0) hx hb dN_liquor_114 (by decide) ?_
              refine ct_dald (k := 0) (v := a 0) hx hb hK hP 1 0 rfl rfl (by unfold vp_in; decide) (rfl) (rfl) dN_liquor_115 ?_
              refine lv_dload_n hx hb dN_liquor_116 rfl (lv_at hl 1 rfl) ?_
              refine lv_dadd hx hb dN_liquor_117 (hok9.1.1) ?_
              refine ct_dast (k := 0) (w1 := (wN ad cA (vf_upd a 0 (FP.dadd (a 0) li)) (mixD Tm (a 0) d li) (mixD Ac (a 0) ac9 li) gt lt ts nw st hs ht dc pa ib ac)) hx hb hK hP hD hS 1 0 rfl rfl (by unfold vp_in; decide) (rfl) (rfl) dN_liquor_118 (fun H locs hP hD hS => ?_)
              refine lv_aload_n hx hb dN_liquor_119 rfl (lv_at hl 0 rfl) ?_
              refine lv_iconst (v := 1) hx hb dN_liquor_120 (by decide) ?_
              refine va_put (D := (dC, dI)) (ci := 3) (v := .int 1) (ty := .boolean) (C := "MashEnzymesModel") (T := F_N) (N := 14) hx hb hts in_N t_N t_N_ok n_N hown hK hP hD hS 0 rfl rfl 4 (by decide) (hts _ tw_f_N_68) (fun _ h9 => h9) rfl (by decide +kernel) rfl rfl (Nat.le_of_ble_eq_true rfl) dN_liquor_121 (fun H locs hP hD hS => ?_)
              have hP : va_P (dC, dI) cls (wN ad cA (vf_upd a 0 (FP.dadd (a 0) li)) (mixD Tm (a 0) d li) (mixD Ac (a 0) ac9 li) gt 1 ts nw st hs ht dc pa ib ac) H := hP
              have hD : va_D A (wN ad cA (vf_upd a 0 (FP.dadd (a 0) li)) (mixD Tm (a 0) d li) (mixD Ac (a 0) ac9 li) gt 1 ts nw st hs ht dc pa ib ac) := hD
              refine lv_iconst (v := 1) hx hb dN_liquor_124 (by decide) ?_
              exact ct_ret1 hx hb hr rfl hlocks hP hK hD hS hlq rfl dN_liquor_125
            · refine lv_iconst (v := 0) hx hb dN_liquor_46 (by decide) ?_
              exact ct_ret0 hx hb hr rfl hlocks hP hK hD hS (fun h => h.2.2.2.2 (Classical.not_not.mp fun h9 => c_6 ((cv_l_le _).mpr h9))) rfl dN_liquor_47

theorem gp_c : gpD 0 = 4593671619917905920 ∧ gpD 1 = 4589168020290535424 ∧ gpD 2 = 4595923419731591168 := by decide +kernel
theorem ge_c0 : geD 0 0 = 4607182418800017408 ∧ geD 0 1 = 4604930618986332160 ∧ geD 0 2 = 4598175219545276416 ∧ geD 0 3 = 4602678819172646912 := by decide +kernel
theorem ge_c2 : geD 2 0 = 4602678819172646912 ∧ geD 2 1 = 4600427019358961664 ∧ geD 2 2 = 4593671619917905920 ∧ geD 2 3 = 4598175219545276416 := by decide +kernel
theorem grE_4 (kg : UInt64) (k : Nat) (b : Nat → UInt64) : grE kg k 4 b = vf_upd (vf_upd (vf_upd (vf_upd b 9 (FP.dadd (b 9) (FP.dmul kg (geD k 0)))) 10 (FP.dadd (b 10) (FP.dmul kg (geD k 1)))) 11 (FP.dadd (b 11) (FP.dmul kg (geD k 2)))) 12 (FP.dadd (b 12) (FP.dmul kg (geD k 3))) := by
  rw [← grE_s, ← grE_s, ← grE_s, ← grE_s, grE_0]
theorem grE_id {kg : UInt64} {k : Nat} {b : Nat → UInt64} (h : ∀ i, i < 4 → FP.dadd (b (9 + i)) (FP.dmul kg (geD k i)) = b (9 + i)) : grE kg k 4 b = b := funext fun m => by
  unfold grE
  split
  · rename_i h1
    have := h (m - 9) (by omega)
    rwa [show 9 + (m - 9) = m by omega] at this
  · rfl
set_option maxHeartbeats 4000000 in
set_option maxRecDepth 100000 in
theorem gNg_0 {p : Program} {l : Launch} {e : Env} {R : Room} {s : State} {m : MethodId} {below : List Frame} {meth : Method} {c : Code} {A : Nat → Prop} {dC : Nat → ClassId} {dI : Nat → Nat → Nat} {ad : Nat → Nat} {cA : Nat → ClassId} {Q : State → Prop} {cells slots : Nat} {av : List Value} (b : Nat → UInt64) (kg : UInt64) (Tm Ac : UInt64) (gt lt : Int32) (ts : UInt64) (nw st : Int32) (hs : Nat → Int32) (ht : Nat → UInt64) (dc : Int32) (pa : Nat → UInt64) (ib : Nat → Int32) (ac : Nat → UInt64) (hx : p.tables.exec = Jvm.exec) (hb : c.code = bN_grain) (hts : ∀ x ∈ wT, x.before av.toArray s = true) (hown : s.vm.findClass "MashEnzymesModel" = some m.cls) (hK : va_K (dC, dI) cls (tN cA) s) (hv : ∀ i, i < 4 → vf_n64 (FP.dmul kg (geD 0 i)) ∧ vf_n64 (FP.dadd (b (9 + i)) (FP.dmul kg (geD 0 i)))) (k : ∀ (ls : Array Slot) (H : Heap) (locs : List Loc), va_P (dC, dI) cls (wN ad cA (grE kg 0 4 b) Tm Ac gt lt ts nw st hs ht dc pa ib ac) H → va_D A (wN ad cA (grE kg 0 4 b) Tm Ac gt lt ts nw st hs ht dc pa ib ac) → va_S A s.heap H locs → lv_has ls 6 [(1, .double kg), (0, .ref (ad 0))] → W p l e R s m av.toArray below meth c H locs cells slots Q (F0 m 282 ls [])) : ∀ (ls : Array Slot) (H : Heap) (locs : List Loc), va_P (dC, dI) cls (wN ad cA b Tm Ac gt lt ts nw st hs ht dc pa ib ac) H → va_D A (wN ad cA b Tm Ac gt lt ts nw st hs ht dc pa ib ac) → va_S A s.heap H locs → lv_has ls 6 [(1, .double kg), (0, .ref (ad 0))] → W p l e R s m av.toArray below meth c H locs cells slots Q (F0 m 115 ls []) := by
  intro ls H locs hP hD hS hl
  refine lv_aload_n hx hb dN_grain_115 rfl (lv_at hl 1 rfl) ?_
  refine va_get (D := (dC, dI)) (ci := 3) (v := .ref (ad 1)) (C := "MashEnzymesModel") (T := F_N) (N := 14) hx hb hts in_N hown hK hP 0 rfl rfl 0 (by decide) (hts _ tw_f_N_9) (fun _ h9 => h9) rfl dN_grain_116 ?_
  refine lv_bipush (v := 9) hx hb dN_grain_119 (by decide) ?_
  refine lv_aload_n hx hb dN_grain_121 rfl (lv_at hl 1 rfl) ?_
  refine va_get (D := (dC, dI)) (ci := 3) (v := .ref (ad 1)) (C := "MashEnzymesModel") (T := F_N) (N := 14) hx hb hts in_N hown hK hP 0 rfl rfl 0 (by decide) (hts _ tw_f_N_9) (fun _ h9 => h9) rfl dN_grain_122 ?_
  refine lv_bipush (v := 9) hx hb dN_grain_125 (by decide) ?_
  refine ct_dald (k := 9) (v := b 9) hx hb hK hP 1 0 rfl rfl (by unfold vp_in; decide) (rfl) (rfl) dN_grain_127 ?_
  refine lv_dload_n hx hb dN_grain_128 rfl (lv_at hl 0 rfl) ?_
  refine lv_dconst1 hx hb dN_grain_129 ?_
  refine ct_topd (y := 4607182418800017408) rfl ?_
  refine lv_dmul hx hb dN_grain_130 (by rw [← ge_c0.1]; exact (hv 0 (by decide)).1) ?_
  refine ct_topd (y := FP.dmul kg (geD 0 0)) (by rw [ge_c0.1]) ?_
  refine lv_dadd hx hb dN_grain_131 ((hv 0 (by decide)).2) ?_
  refine ct_dast (k := 9) (w1 := (wN ad cA (vf_upd b 9 (FP.dadd (b 9) (FP.dmul kg (geD 0 0)))) Tm Ac gt lt ts nw st hs ht dc pa ib ac)) hx hb hK hP hD hS 1 0 rfl rfl (by unfold vp_in; decide) (rfl) (rfl) dN_grain_132 (fun H locs hP hD hS => ?_)
  refine lv_aload_n hx hb dN_grain_133 rfl (lv_at hl 1 rfl) ?_
  refine va_get (D := (dC, dI)) (ci := 3) (v := .ref (ad 1)) (C := "MashEnzymesModel") (T := F_N) (N := 14) hx hb hts in_N hown hK hP 0 rfl rfl 0 (by decide) (hts _ tw_f_N_9) (fun _ h9 => h9) rfl dN_grain_134 ?_
  refine lv_bipush (v := 10) hx hb dN_grain_137 (by decide) ?_
  refine lv_aload_n hx hb dN_grain_139 rfl (lv_at hl 1 rfl) ?_
  refine va_get (D := (dC, dI)) (ci := 3) (v := .ref (ad 1)) (C := "MashEnzymesModel") (T := F_N) (N := 14) hx hb hts in_N hown hK hP 0 rfl rfl 0 (by decide) (hts _ tw_f_N_9) (fun _ h9 => h9) rfl dN_grain_140 ?_
  refine lv_bipush (v := 10) hx hb dN_grain_143 (by decide) ?_
  refine ct_dald (k := 10) (v := b 10) hx hb hK hP 1 0 rfl rfl (by unfold vp_in; decide) (rfl) (rfl) dN_grain_145 ?_
  refine lv_dload_n hx hb dN_grain_146 rfl (lv_at hl 0 rfl) ?_
  refine lv_ldc2d hx hb hown (hts _ tw_d_N_42) dN_grain_147 ?_
  refine lv_dmul hx hb dN_grain_150 (by rw [← ge_c0.2.1]; exact (hv 1 (by decide)).1) ?_
  refine ct_topd (y := FP.dmul kg (geD 0 1)) (by rw [ge_c0.2.1]) ?_
  refine lv_dadd hx hb dN_grain_151 ((hv 1 (by decide)).2) ?_
  refine ct_dast (k := 10) (w1 := (wN ad cA (vf_upd (vf_upd b 9 (FP.dadd (b 9) (FP.dmul kg (geD 0 0)))) 10 (FP.dadd (b 10) (FP.dmul kg (geD 0 1)))) Tm Ac gt lt ts nw st hs ht dc pa ib ac)) hx hb hK hP hD hS 1 0 rfl rfl (by unfold vp_in; decide) (rfl) (rfl) dN_grain_152 (fun H locs hP hD hS => ?_)
  refine lv_aload_n hx hb dN_grain_153 rfl (lv_at hl 1 rfl) ?_
  refine va_get (D := (dC, dI)) (ci := 3) (v := .ref (ad 1)) (C := "MashEnzymesModel") (T := F_N) (N := 14) hx hb hts in_N hown hK hP 0 rfl rfl 0 (by decide) (hts _ tw_f_N_9) (fun _ h9 => h9) rfl dN_grain_154 ?_
  refine lv_bipush (v := 11) hx hb dN_grain_157 (by decide) ?_
  refine lv_aload_n hx hb dN_grain_159 rfl (lv_at hl 1 rfl) ?_
  refine va_get (D := (dC, dI)) (ci := 3) (v := .ref (ad 1)) (C := "MashEnzymesModel") (T := F_N) (N := 14) hx hb hts in_N hown hK hP 0 rfl rfl 0 (by decide) (hts _ tw_f_N_9) (fun _ h9 => h9) rfl dN_grain_160 ?_
  refine lv_bipush (v := 11) hx hb dN_grain_163 (by decide) ?_
  refine ct_dald (k := 11) (v := b 11) hx hb hK hP 1 0 rfl rfl (by unfold vp_in; decide) (rfl) (rfl) dN_grain_165 ?_
  refine lv_dload_n hx hb dN_grain_166 rfl (lv_at hl 0 rfl) ?_
  refine lv_ldc2d hx hb hown (hts _ tw_d_N_44) dN_grain_167 ?_
  refine lv_dmul hx hb dN_grain_170 (by rw [← ge_c0.2.2.1]; exact (hv 2 (by decide)).1) ?_
  refine ct_topd (y := FP.dmul kg (geD 0 2)) (by rw [ge_c0.2.2.1]) ?_
  refine lv_dadd hx hb dN_grain_171 ((hv 2 (by decide)).2) ?_
  refine ct_dast (k := 11) (w1 := (wN ad cA (vf_upd (vf_upd (vf_upd b 9 (FP.dadd (b 9) (FP.dmul kg (geD 0 0)))) 10 (FP.dadd (b 10) (FP.dmul kg (geD 0 1)))) 11 (FP.dadd (b 11) (FP.dmul kg (geD 0 2)))) Tm Ac gt lt ts nw st hs ht dc pa ib ac)) hx hb hK hP hD hS 1 0 rfl rfl (by unfold vp_in; decide) (rfl) (rfl) dN_grain_172 (fun H locs hP hD hS => ?_)
  refine lv_aload_n hx hb dN_grain_173 rfl (lv_at hl 1 rfl) ?_
  refine va_get (D := (dC, dI)) (ci := 3) (v := .ref (ad 1)) (C := "MashEnzymesModel") (T := F_N) (N := 14) hx hb hts in_N hown hK hP 0 rfl rfl 0 (by decide) (hts _ tw_f_N_9) (fun _ h9 => h9) rfl dN_grain_174 ?_
  refine lv_bipush (v := 12) hx hb dN_grain_177 (by decide) ?_
  refine lv_aload_n hx hb dN_grain_179 rfl (lv_at hl 1 rfl) ?_
  refine va_get (D := (dC, dI)) (ci := 3) (v := .ref (ad 1)) (C := "MashEnzymesModel") (T := F_N) (N := 14) hx hb hts in_N hown hK hP 0 rfl rfl 0 (by decide) (hts _ tw_f_N_9) (fun _ h9 => h9) rfl dN_grain_180 ?_
  refine lv_bipush (v := 12) hx hb dN_grain_183 (by decide) ?_
  refine ct_dald (k := 12) (v := b 12) hx hb hK hP 1 0 rfl rfl (by unfold vp_in; decide) (rfl) (rfl) dN_grain_185 ?_
  refine lv_dload_n hx hb dN_grain_186 rfl (lv_at hl 0 rfl) ?_
  refine lv_ldc2d hx hb hown (hts _ tw_d_N_46) dN_grain_187 ?_
  refine lv_dmul hx hb dN_grain_190 (by rw [← ge_c0.2.2.2]; exact (hv 3 (by decide)).1) ?_
  refine ct_topd (y := FP.dmul kg (geD 0 3)) (by rw [ge_c0.2.2.2]) ?_
  refine lv_dadd hx hb dN_grain_191 ((hv 3 (by decide)).2) ?_
  refine ct_dast (k := 12) (w1 := (wN ad cA (vf_upd (vf_upd (vf_upd (vf_upd b 9 (FP.dadd (b 9) (FP.dmul kg (geD 0 0)))) 10 (FP.dadd (b 10) (FP.dmul kg (geD 0 1)))) 11 (FP.dadd (b 11) (FP.dmul kg (geD 0 2)))) 12 (FP.dadd (b 12) (FP.dmul kg (geD 0 3)))) Tm Ac gt lt ts nw st hs ht dc pa ib ac)) hx hb hK hP hD hS 1 0 rfl rfl (by unfold vp_in; decide) (rfl) (rfl) dN_grain_192 (fun H locs hP hD hS => ?_)
  refine lv_goto (tgt := 282) hx hb dN_grain_193 (by decide) ?_
  exact k ls _ _ (by rw [grE_4]; exact hP) (by rw [grE_4]; exact hD) hS (lv_sub hl [0, 1] rfl)
set_option maxHeartbeats 4000000 in
set_option maxRecDepth 100000 in
theorem gNg_2 {p : Program} {l : Launch} {e : Env} {R : Room} {s : State} {m : MethodId} {below : List Frame} {meth : Method} {c : Code} {A : Nat → Prop} {dC : Nat → ClassId} {dI : Nat → Nat → Nat} {ad : Nat → Nat} {cA : Nat → ClassId} {Q : State → Prop} {cells slots : Nat} {av : List Value} (b : Nat → UInt64) (kg : UInt64) (Tm Ac : UInt64) (gt lt : Int32) (ts : UInt64) (nw st : Int32) (hs : Nat → Int32) (ht : Nat → UInt64) (dc : Int32) (pa : Nat → UInt64) (ib : Nat → Int32) (ac : Nat → UInt64) (hx : p.tables.exec = Jvm.exec) (hb : c.code = bN_grain) (hts : ∀ x ∈ wT, x.before av.toArray s = true) (hown : s.vm.findClass "MashEnzymesModel" = some m.cls) (hK : va_K (dC, dI) cls (tN cA) s) (hv : ∀ i, i < 4 → vf_n64 (FP.dmul kg (geD 2 i)) ∧ vf_n64 (FP.dadd (b (9 + i)) (FP.dmul kg (geD 2 i)))) (k : ∀ (ls : Array Slot) (H : Heap) (locs : List Loc), va_P (dC, dI) cls (wN ad cA (grE kg 2 4 b) Tm Ac gt lt ts nw st hs ht dc pa ib ac) H → va_D A (wN ad cA (grE kg 2 4 b) Tm Ac gt lt ts nw st hs ht dc pa ib ac) → va_S A s.heap H locs → lv_has ls 6 [(1, .double kg), (0, .ref (ad 0))] → W p l e R s m av.toArray below meth c H locs cells slots Q (F0 m 282 ls [])) : ∀ (ls : Array Slot) (H : Heap) (locs : List Loc), va_P (dC, dI) cls (wN ad cA b Tm Ac gt lt ts nw st hs ht dc pa ib ac) H → va_D A (wN ad cA b Tm Ac gt lt ts nw st hs ht dc pa ib ac) → va_S A s.heap H locs → lv_has ls 6 [(1, .double kg), (0, .ref (ad 0))] → W p l e R s m av.toArray below meth c H locs cells slots Q (F0 m 202 ls []) := by
  intro ls H locs hP hD hS hl
  refine lv_aload_n hx hb dN_grain_202 rfl (lv_at hl 1 rfl) ?_
  refine va_get (D := (dC, dI)) (ci := 3) (v := .ref (ad 1)) (C := "MashEnzymesModel") (T := F_N) (N := 14) hx hb hts in_N hown hK hP 0 rfl rfl 0 (by decide) (hts _ tw_f_N_9) (fun _ h9 => h9) rfl dN_grain_203 ?_
  refine lv_bipush (v := 9) hx hb dN_grain_206 (by decide) ?_
  refine lv_aload_n hx hb dN_grain_208 rfl (lv_at hl 1 rfl) ?_
  refine va_get (D := (dC, dI)) (ci := 3) (v := .ref (ad 1)) (C := "MashEnzymesModel") (T := F_N) (N := 14) hx hb hts in_N hown hK hP 0 rfl rfl 0 (by decide) (hts _ tw_f_N_9) (fun _ h9 => h9) rfl dN_grain_209 ?_
  refine lv_bipush (v := 9) hx hb dN_grain_212 (by decide) ?_
  refine ct_dald (k := 9) (v := b 9) hx hb hK hP 1 0 rfl rfl (by unfold vp_in; decide) (rfl) (rfl) dN_grain_214 ?_
  refine lv_dload_n hx hb dN_grain_215 rfl (lv_at hl 0 rfl) ?_
  refine lv_ldc2d hx hb hown (hts _ tw_d_N_46) dN_grain_216 ?_
  refine lv_dmul hx hb dN_grain_219 (by rw [← ge_c2.1]; exact (hv 0 (by decide)).1) ?_
  refine ct_topd (y := FP.dmul kg (geD 2 0)) (by rw [ge_c2.1]) ?_
  refine lv_dadd hx hb dN_grain_220 ((hv 0 (by decide)).2) ?_
  refine ct_dast (k := 9) (w1 := (wN ad cA (vf_upd b 9 (FP.dadd (b 9) (FP.dmul kg (geD 2 0)))) Tm Ac gt lt ts nw st hs ht dc pa ib ac)) hx hb hK hP hD hS 1 0 rfl rfl (by unfold vp_in; decide) (rfl) (rfl) dN_grain_221 (fun H locs hP hD hS => ?_)
  refine lv_aload_n hx hb dN_grain_222 rfl (lv_at hl 1 rfl) ?_
  refine va_get (D := (dC, dI)) (ci := 3) (v := .ref (ad 1)) (C := "MashEnzymesModel") (T := F_N) (N := 14) hx hb hts in_N hown hK hP 0 rfl rfl 0 (by decide) (hts _ tw_f_N_9) (fun _ h9 => h9) rfl dN_grain_223 ?_
  refine lv_bipush (v := 10) hx hb dN_grain_226 (by decide) ?_
  refine lv_aload_n hx hb dN_grain_228 rfl (lv_at hl 1 rfl) ?_
  refine va_get (D := (dC, dI)) (ci := 3) (v := .ref (ad 1)) (C := "MashEnzymesModel") (T := F_N) (N := 14) hx hb hts in_N hown hK hP 0 rfl rfl 0 (by decide) (hts _ tw_f_N_9) (fun _ h9 => h9) rfl dN_grain_229 ?_
  refine lv_bipush (v := 10) hx hb dN_grain_232 (by decide) ?_
  refine ct_dald (k := 10) (v := b 10) hx hb hK hP 1 0 rfl rfl (by unfold vp_in; decide) (rfl) (rfl) dN_grain_234 ?_
  refine lv_dload_n hx hb dN_grain_235 rfl (lv_at hl 0 rfl) ?_
  refine lv_ldc2d hx hb hown (hts _ tw_d_N_48) dN_grain_236 ?_
  refine lv_dmul hx hb dN_grain_239 (by rw [← ge_c2.2.1]; exact (hv 1 (by decide)).1) ?_
  refine ct_topd (y := FP.dmul kg (geD 2 1)) (by rw [ge_c2.2.1]) ?_
  refine lv_dadd hx hb dN_grain_240 ((hv 1 (by decide)).2) ?_
  refine ct_dast (k := 10) (w1 := (wN ad cA (vf_upd (vf_upd b 9 (FP.dadd (b 9) (FP.dmul kg (geD 2 0)))) 10 (FP.dadd (b 10) (FP.dmul kg (geD 2 1)))) Tm Ac gt lt ts nw st hs ht dc pa ib ac)) hx hb hK hP hD hS 1 0 rfl rfl (by unfold vp_in; decide) (rfl) (rfl) dN_grain_241 (fun H locs hP hD hS => ?_)
  refine lv_aload_n hx hb dN_grain_242 rfl (lv_at hl 1 rfl) ?_
  refine va_get (D := (dC, dI)) (ci := 3) (v := .ref (ad 1)) (C := "MashEnzymesModel") (T := F_N) (N := 14) hx hb hts in_N hown hK hP 0 rfl rfl 0 (by decide) (hts _ tw_f_N_9) (fun _ h9 => h9) rfl dN_grain_243 ?_
  refine lv_bipush (v := 11) hx hb dN_grain_246 (by decide) ?_
  refine lv_aload_n hx hb dN_grain_248 rfl (lv_at hl 1 rfl) ?_
  refine va_get (D := (dC, dI)) (ci := 3) (v := .ref (ad 1)) (C := "MashEnzymesModel") (T := F_N) (N := 14) hx hb hts in_N hown hK hP 0 rfl rfl 0 (by decide) (hts _ tw_f_N_9) (fun _ h9 => h9) rfl dN_grain_249 ?_
  refine lv_bipush (v := 11) hx hb dN_grain_252 (by decide) ?_
  refine ct_dald (k := 11) (v := b 11) hx hb hK hP 1 0 rfl rfl (by unfold vp_in; decide) (rfl) (rfl) dN_grain_254 ?_
  refine lv_dload_n hx hb dN_grain_255 rfl (lv_at hl 0 rfl) ?_
  refine lv_ldc2d hx hb hown (hts _ tw_d_N_36) dN_grain_256 ?_
  refine lv_dmul hx hb dN_grain_259 (by rw [← ge_c2.2.2.1]; exact (hv 2 (by decide)).1) ?_
  refine ct_topd (y := FP.dmul kg (geD 2 2)) (by rw [ge_c2.2.2.1]) ?_
  refine lv_dadd hx hb dN_grain_260 ((hv 2 (by decide)).2) ?_
  refine ct_dast (k := 11) (w1 := (wN ad cA (vf_upd (vf_upd (vf_upd b 9 (FP.dadd (b 9) (FP.dmul kg (geD 2 0)))) 10 (FP.dadd (b 10) (FP.dmul kg (geD 2 1)))) 11 (FP.dadd (b 11) (FP.dmul kg (geD 2 2)))) Tm Ac gt lt ts nw st hs ht dc pa ib ac)) hx hb hK hP hD hS 1 0 rfl rfl (by unfold vp_in; decide) (rfl) (rfl) dN_grain_261 (fun H locs hP hD hS => ?_)
  refine lv_aload_n hx hb dN_grain_262 rfl (lv_at hl 1 rfl) ?_
  refine va_get (D := (dC, dI)) (ci := 3) (v := .ref (ad 1)) (C := "MashEnzymesModel") (T := F_N) (N := 14) hx hb hts in_N hown hK hP 0 rfl rfl 0 (by decide) (hts _ tw_f_N_9) (fun _ h9 => h9) rfl dN_grain_263 ?_
  refine lv_bipush (v := 12) hx hb dN_grain_266 (by decide) ?_
  refine lv_aload_n hx hb dN_grain_268 rfl (lv_at hl 1 rfl) ?_
  refine va_get (D := (dC, dI)) (ci := 3) (v := .ref (ad 1)) (C := "MashEnzymesModel") (T := F_N) (N := 14) hx hb hts in_N hown hK hP 0 rfl rfl 0 (by decide) (hts _ tw_f_N_9) (fun _ h9 => h9) rfl dN_grain_269 ?_
  refine lv_bipush (v := 12) hx hb dN_grain_272 (by decide) ?_
  refine ct_dald (k := 12) (v := b 12) hx hb hK hP 1 0 rfl rfl (by unfold vp_in; decide) (rfl) (rfl) dN_grain_274 ?_
  refine lv_dload_n hx hb dN_grain_275 rfl (lv_at hl 0 rfl) ?_
  refine lv_ldc2d hx hb hown (hts _ tw_d_N_44) dN_grain_276 ?_
  refine lv_dmul hx hb dN_grain_279 (by rw [← ge_c2.2.2.2]; exact (hv 3 (by decide)).1) ?_
  refine ct_topd (y := FP.dmul kg (geD 2 3)) (by rw [ge_c2.2.2.2]) ?_
  refine lv_dadd hx hb dN_grain_280 ((hv 3 (by decide)).2) ?_
  refine ct_dast (k := 12) (w1 := (wN ad cA (vf_upd (vf_upd (vf_upd (vf_upd b 9 (FP.dadd (b 9) (FP.dmul kg (geD 2 0)))) 10 (FP.dadd (b 10) (FP.dmul kg (geD 2 1)))) 11 (FP.dadd (b 11) (FP.dmul kg (geD 2 2)))) 12 (FP.dadd (b 12) (FP.dmul kg (geD 2 3)))) Tm Ac gt lt ts nw st hs ht dc pa ib ac)) hx hb hK hP hD hS 1 0 rfl rfl (by unfold vp_in; decide) (rfl) (rfl) dN_grain_281 (fun H locs hP hD hS => ?_)
  exact k ls _ _ (by rw [grE_4]; exact hP) (by rw [grE_4]; exact hD) hS (lv_sub hl [0, 1] rfl)
set_option maxHeartbeats 4000000 in
set_option maxRecDepth 100000 in
/-- grain -/
theorem cN_grain (l : Launch) (dC : Nat → ClassId) (dI : Nat → Nat → Nat) (tt : Nat → Nat) (sz : Nat) (ad : Nat → Nat) (cA : Nat → ClassId) (a : Nat → UInt64) (Tm Ac : UInt64) (gt lt : Int32) (ts : UInt64) (nw st : Int32) (hs : Nat → Int32) (ht : Nat → UInt64) (dc : Int32) (pa : Nat → UInt64) (ib : Nat → Int32) (ac : Nat → UInt64) (kg st9 : UInt64) (kind : Int32) (hns : nNo st9) (hok : grOK kg st9 kind → okG kg st9 kind.toNatClampNeg a ts) (hz1 : kind.toNatClampNeg = 1 → ∀ i, i < 4 → FP.dadd (a (9 + i)) (FP.dmul kg (geD 1 i)) = a (9 + i)) : Ct l dC dI tt yN_grain bN_grain 6 (some .boolean) ({ frames := 0, cells := 0, slots := 0, locals := 0 }) (tN cA) [.ref (ad 0), .double kg, .double st9, .int kind] (wN ad cA a Tm Ac gt lt ts nw st hs ht dc pa ib ac) sz (fun A => ctQc dC dI (tN cA) (grOK kg st9 kind) 1 (wN ad cA (grA kg st9 kind.toNatClampNeg a) Tm Ac 1 lt (FP.dadd ts (FP.dmul kg st9)) nw st hs ht dc pa ib ac) 0 (wN ad cA a Tm Ac gt lt ts nw st hs ht dc pa ib ac) A) := by
  refine ct_of (by decide) (Nat.le_of_ble_eq_true rfl) ?_
  intro p e s m below meth c A ls hx hb hr hts hown hml hlocks hnm hA hS hP hK hD hT hl
  have hl : lv_has ls 6 [(0, .ref (ad 0)), (1, .double kg), (3, .double st9), (5, .int kind)] := hl
  refine lv_dload_n hx hb dN_grain_0 rfl (lv_at hl 1 rfl) ?_
  refine lv_dconst0 hx hb dN_grain_1 ?_
  refine ct_topd (y := 0) rfl ?_
  refine lv_dcmp hx hb dN_grain_2 ?_
  refine lv_if_le (tgt := 37) hx hb dN_grain_3 (by decide) (fun c_1 => ?_) (fun c_1 => ?_)
  · refine lv_iconst (v := 0) hx hb dN_grain_37 (by decide) ?_
    exact ct_ret0 hx hb hr rfl hlocks hP hK hD hS (fun h => (cv_l_le _).mp c_1 h.1) rfl dN_grain_38
  · have h_kg0 := (Classical.not_not.mp fun h => c_1 ((cv_l_le _).mpr h) : FP.dcmp kg 0 = some .gt)
    refine lv_dload_n hx hb dN_grain_6 rfl (lv_at hl 1 rfl) ?_
    refine lv_ldc2d hx hb hown (hts _ tw_d_N_30) dN_grain_7 ?_
    refine lv_dcmp hx hb dN_grain_10 ?_
    refine lv_if_gt (tgt := 37) hx hb dN_grain_11 (by decide) (fun c_2 => ?_) (fun c_2 => ?_)
    · refine lv_iconst (v := 0) hx hb dN_grain_37 (by decide) ?_
      exact ct_ret0 hx hb hr rfl hlocks hP hK hD hS (fun h => h.2.1 ((cv_l_gt _).mp c_2)) rfl dN_grain_38
    · have h_kg1 := (fun h => c_2 ((cv_l_gt _).mpr h) : ¬ FP.dcmp kg 4652007308841189376 = some .gt)
      refine lv_dload_n hx hb dN_grain_14 rfl (lv_at hl 2 rfl) ?_
      refine lv_dconst0 hx hb dN_grain_15 ?_
      refine ct_topd (y := 0) rfl ?_
      refine lv_dcmp hx hb dN_grain_16 ?_
      refine lv_if_lt (tgt := 37) hx hb dN_grain_17 (by decide) (fun c_3 => ?_) (fun c_3 => ?_)
      · refine lv_iconst (v := 0) hx hb dN_grain_37 (by decide) ?_
        exact ct_ret0 hx hb hr rfl hlocks hP hK hD hS (fun h => h.2.2.1 ((cvn_l (hns _ (by decide))).mp c_3)) rfl dN_grain_38
      · have h_st0 := (fun h => c_3 ((cvn_l (hns _ (by decide))).mpr h) : ¬ FP.dcmp st9 0 = some .lt)
        refine lv_dload_n hx hb dN_grain_20 rfl (lv_at hl 2 rfl) ?_
        refine lv_dconst1 hx hb dN_grain_21 ?_
        refine ct_topd (y := 4607182418800017408) rfl ?_
        refine lv_dcmp hx hb dN_grain_22 ?_
        refine lv_if_gt (tgt := 37) hx hb dN_grain_23 (by decide) (fun c_4 => ?_) (fun c_4 => ?_)
        · refine lv_iconst (v := 0) hx hb dN_grain_37 (by decide) ?_
          exact ct_ret0 hx hb hr rfl hlocks hP hK hD hS (fun h => h.2.2.2.1 ((cv_l_gt _).mp c_4)) rfl dN_grain_38
        · have h_st1 := (fun h => c_4 ((cv_l_gt _).mpr h) : ¬ FP.dcmp st9 4607182418800017408 = some .gt)
          refine lv_iload hx hb dN_grain_26 (lv_at hl 3 rfl) ?_
          refine lv_if_lt (tgt := 37) hx hb dN_grain_28 (by decide) (fun c_5 => ?_) (fun c_5 => ?_)
          · refine lv_iconst (v := 0) hx hb dN_grain_37 (by decide) ?_
            exact ct_ret0 hx hb hr rfl hlocks hP hK hD hS (fun h => Int32.not_lt.mpr h.2.2.2.2.1 c_5) rfl dN_grain_38
          · have h_k0 := (c_5 : ¬ kind < 0)
            refine lv_iload hx hb dN_grain_31 (lv_at hl 3 rfl) ?_
            refine lv_iconst (v := 2) hx hb dN_grain_33 (by decide) ?_
            refine lv_icmp_le (tgt := 39) hx hb dN_grain_34 (by decide) (fun c_6 => ?_) (fun c_6 => ?_)
            · have h_k1 := (lt2_3 c_6 : kind < 3)
              have hz : grOK kg st9 kind := ⟨h_kg0, h_kg1, h_st0, h_st1, Int32.not_lt.mp h_k0, h_k1⟩
              obtain ⟨k, hk, rfl⟩ := nI_of (x := kind) h_k0
              have hk3 : k < 3 := (nI_ltI hk (by decide)).mp h_k1
              have hok9 := hok hz
              rw [nI_clamp hk] at hok9
              rw [nI_clamp hk]
              rcases (show k = 0 ∨ k = 1 ∨ k = 2 by omega) with rfl | rfl | rfl
              · refine lv_aload_n hx hb dN_grain_39 rfl (lv_at hl 0 rfl) ?_
                refine va_get (D := (dC, dI)) (ci := 3) (v := .ref (ad 1)) (C := "MashEnzymesModel") (T := F_N) (N := 14) hx hb hts in_N hown hK hP 0 rfl rfl 0 (by decide) (hts _ tw_f_N_9) (fun _ h9 => h9) rfl dN_grain_40 ?_
                refine lv_iconst (v := 1) hx hb dN_grain_43 (by decide) ?_
                refine lv_aload_n hx hb dN_grain_44 rfl (lv_at hl 0 rfl) ?_
                refine va_get (D := (dC, dI)) (ci := 3) (v := .ref (ad 1)) (C := "MashEnzymesModel") (T := F_N) (N := 14) hx hb hts in_N hown hK hP 0 rfl rfl 0 (by decide) (hts _ tw_f_N_9) (fun _ h9 => h9) rfl dN_grain_45 ?_
                refine lv_iconst (v := 1) hx hb dN_grain_48 (by decide) ?_
                refine ct_dald (k := 1) (v := a 1) hx hb hK hP 1 0 rfl rfl (by unfold vp_in; decide) (rfl) (rfl) dN_grain_49 ?_
                refine lv_dload_n hx hb dN_grain_50 rfl (lv_at hl 1 rfl) ?_
                refine lv_dload_n hx hb dN_grain_51 rfl (lv_at hl 2 rfl) ?_
                refine lv_dmul hx hb dN_grain_52 (hok9.1) ?_
                refine lv_dadd hx hb dN_grain_53 (hok9.2.1) ?_
                refine ct_dast (k := 1) (w1 := (wN ad cA (vf_upd a 1 (FP.dadd (a 1) (FP.dmul kg st9))) Tm Ac gt lt ts nw st hs ht dc pa ib ac)) hx hb hK hP hD hS 1 0 rfl rfl (by unfold vp_in; decide) (rfl) (rfl) dN_grain_54 (fun H locs hP hD hS => ?_)
                refine lv_aload_n hx hb dN_grain_55 rfl (lv_at hl 0 rfl) ?_
                refine lv_aload_n hx hb dN_grain_56 rfl (lv_at hl 0 rfl) ?_
                refine va_get (D := (dC, dI)) (ci := 3) (v := .double ts) (C := "MashEnzymesModel") (T := F_N) (N := 14) hx hb hts in_N hown hK hP 0 rfl rfl 5 (by decide) (hts _ tw_f_N_32) (fun _ h9 => h9) rfl dN_grain_57 ?_
                refine lv_dload_n hx hb dN_grain_60 rfl (lv_at hl 1 rfl) ?_
                refine lv_dload_n hx hb dN_grain_61 rfl (lv_at hl 2 rfl) ?_
                refine lv_dmul hx hb dN_grain_62 (hok9.1) ?_
                refine lv_dadd hx hb dN_grain_63 (hok9.2.2.1) ?_
                refine va_put (D := (dC, dI)) (ci := 3) (v := .double (FP.dadd ts (FP.dmul kg st9))) (ty := .double) (C := "MashEnzymesModel") (T := F_N) (N := 14) hx hb hts in_N t_N t_N_ok n_N hown hK hP hD hS 0 rfl rfl 5 (by decide) (hts _ tw_f_N_32) (fun _ h9 => h9) rfl (by decide +kernel) rfl rfl (Nat.le_of_ble_eq_true rfl) dN_grain_64 (fun H locs hP hD hS => ?_)
                have hP : va_P (dC, dI) cls (wN ad cA (vf_upd a 1 (FP.dadd (a 1) (FP.dmul kg st9))) Tm Ac gt lt (FP.dadd ts (FP.dmul kg st9)) nw st hs ht dc pa ib ac) H := hP
                have hD : va_D A (wN ad cA (vf_upd a 1 (FP.dadd (a 1) (FP.dmul kg st9))) Tm Ac gt lt (FP.dadd ts (FP.dmul kg st9)) nw st hs ht dc pa ib ac) := hD
                refine lv_aload_n hx hb dN_grain_67 rfl (lv_at hl 0 rfl) ?_
                refine va_get (D := (dC, dI)) (ci := 3) (v := .ref (ad 1)) (C := "MashEnzymesModel") (T := F_N) (N := 14) hx hb hts in_N hown hK hP 0 rfl rfl 0 (by decide) (hts _ tw_f_N_9) (fun _ h9 => h9) rfl dN_grain_68 ?_
                refine lv_bipush (v := 8) hx hb dN_grain_71 (by decide) ?_
                refine lv_aload_n hx hb dN_grain_73 rfl (lv_at hl 0 rfl) ?_
                refine va_get (D := (dC, dI)) (ci := 3) (v := .ref (ad 1)) (C := "MashEnzymesModel") (T := F_N) (N := 14) hx hb hts in_N hown hK hP 0 rfl rfl 0 (by decide) (hts _ tw_f_N_9) (fun _ h9 => h9) rfl dN_grain_74 ?_
                refine lv_bipush (v := 8) hx hb dN_grain_77 (by decide) ?_
                refine ct_dald (k := 8) (v := a 8) hx hb hK hP 1 0 rfl rfl (by unfold vp_in; decide) (rfl) (rfl) dN_grain_79 ?_
                refine lv_dload_n hx hb dN_grain_80 rfl (lv_at hl 1 rfl) ?_
                refine lv_iload hx hb dN_grain_81 (lv_at hl 3 rfl) ?_
                refine lv_if_ne (tgt := 92) hx hb dN_grain_83 (by decide) (fun c_7 => ?_) (fun c_7 => ?_)
                · exact (absurd rfl c_7)
                · refine lv_ldc2d hx hb hown (hts _ tw_d_N_36) dN_grain_86 ?_
                  refine lv_goto (tgt := 107) hx hb dN_grain_89 (by decide) ?_
                  refine lv_dmul hx hb dN_grain_107 (by rw [← gp_c.1]; exact hok9.2.2.2.1) ?_
                  refine ct_topd (y := FP.dmul kg (gpD 0)) (by rw [gp_c.1]) ?_
                  refine lv_dadd hx hb dN_grain_108 (hok9.2.2.2.2.1) ?_
                  refine ct_dast (k := 8) (w1 := (wN ad cA (gr2 kg st9 0 a) Tm Ac gt lt (FP.dadd ts (FP.dmul kg st9)) nw st hs ht dc pa ib ac)) hx hb hK hP hD hS 1 0 rfl rfl (by unfold vp_in; decide) (rfl) (rfl) dN_grain_109 (fun H locs hP hD hS => ?_)
                  refine lv_iload hx hb dN_grain_110 (lv_at hl 3 rfl) ?_
                  refine lv_if_ne (tgt := 196) hx hb dN_grain_112 (by decide) (fun c_8 => ?_) (fun c_8 => ?_)
                  · exact (absurd rfl c_8)
                  · refine gNg_0 (l := l) (e := e) (below := below) (gr2 kg st9 0 a) kg Tm Ac gt lt (FP.dadd ts (FP.dmul kg st9)) nw st hs ht dc pa ib ac hx hb hts hown hK (fun i hi => by rw [gr2_at]; exact hok9.2.2.2.2.2 i hi) (fun ls H locs hP hD hS hl => ?_) ls _ _ hP hD hS (lv_sub hl [1, 0] rfl)
                    refine lv_aload_n hx hb dN_grain_282 rfl (lv_at hl 1 rfl) ?_
                    refine lv_iconst (v := 1) hx hb dN_grain_283 (by decide) ?_
                    refine va_put (D := (dC, dI)) (ci := 3) (v := .int 1) (ty := .boolean) (C := "MashEnzymesModel") (T := F_N) (N := 14) hx hb hts in_N t_N t_N_ok n_N hown hK hP hD hS 0 rfl rfl 3 (by decide) (hts _ tw_f_N_50) (fun _ h9 => h9) rfl (by decide +kernel) rfl rfl (Nat.le_of_ble_eq_true rfl) dN_grain_284 (fun H locs hP hD hS => ?_)
                    have hP : va_P (dC, dI) cls (wN ad cA (grE kg 0 4 (gr2 kg st9 0 a)) Tm Ac 1 lt (FP.dadd ts (FP.dmul kg st9)) nw st hs ht dc pa ib ac) H := hP
                    have hD : va_D A (wN ad cA (grE kg 0 4 (gr2 kg st9 0 a)) Tm Ac 1 lt (FP.dadd ts (FP.dmul kg st9)) nw st hs ht dc pa ib ac) := hD
                    refine lv_iconst (v := 1) hx hb dN_grain_287 (by decide) ?_
                    exact ct_ret1 hx hb hr rfl hlocks hP hK hD hS hz rfl dN_grain_288
              · refine lv_aload_n hx hb dN_grain_39 rfl (lv_at hl 0 rfl) ?_
                refine va_get (D := (dC, dI)) (ci := 3) (v := .ref (ad 1)) (C := "MashEnzymesModel") (T := F_N) (N := 14) hx hb hts in_N hown hK hP 0 rfl rfl 0 (by decide) (hts _ tw_f_N_9) (fun _ h9 => h9) rfl dN_grain_40 ?_
                refine lv_iconst (v := 1) hx hb dN_grain_43 (by decide) ?_
                refine lv_aload_n hx hb dN_grain_44 rfl (lv_at hl 0 rfl) ?_
                refine va_get (D := (dC, dI)) (ci := 3) (v := .ref (ad 1)) (C := "MashEnzymesModel") (T := F_N) (N := 14) hx hb hts in_N hown hK hP 0 rfl rfl 0 (by decide) (hts _ tw_f_N_9) (fun _ h9 => h9) rfl dN_grain_45 ?_
                refine lv_iconst (v := 1) hx hb dN_grain_48 (by decide) ?_
                refine ct_dald (k := 1) (v := a 1) hx hb hK hP 1 0 rfl rfl (by unfold vp_in; decide) (rfl) (rfl) dN_grain_49 ?_
                refine lv_dload_n hx hb dN_grain_50 rfl (lv_at hl 1 rfl) ?_
                refine lv_dload_n hx hb dN_grain_51 rfl (lv_at hl 2 rfl) ?_
                refine lv_dmul hx hb dN_grain_52 (hok9.1) ?_
                refine lv_dadd hx hb dN_grain_53 (hok9.2.1) ?_
                refine ct_dast (k := 1) (w1 := (wN ad cA (vf_upd a 1 (FP.dadd (a 1) (FP.dmul kg st9))) Tm Ac gt lt ts nw st hs ht dc pa ib ac)) hx hb hK hP hD hS 1 0 rfl rfl (by unfold vp_in; decide) (rfl) (rfl) dN_grain_54 (fun H locs hP hD hS => ?_)
                refine lv_aload_n hx hb dN_grain_55 rfl (lv_at hl 0 rfl) ?_
                refine lv_aload_n hx hb dN_grain_56 rfl (lv_at hl 0 rfl) ?_
                refine va_get (D := (dC, dI)) (ci := 3) (v := .double ts) (C := "MashEnzymesModel") (T := F_N) (N := 14) hx hb hts in_N hown hK hP 0 rfl rfl 5 (by decide) (hts _ tw_f_N_32) (fun _ h9 => h9) rfl dN_grain_57 ?_
                refine lv_dload_n hx hb dN_grain_60 rfl (lv_at hl 1 rfl) ?_
                refine lv_dload_n hx hb dN_grain_61 rfl (lv_at hl 2 rfl) ?_
                refine lv_dmul hx hb dN_grain_62 (hok9.1) ?_
                refine lv_dadd hx hb dN_grain_63 (hok9.2.2.1) ?_
                refine va_put (D := (dC, dI)) (ci := 3) (v := .double (FP.dadd ts (FP.dmul kg st9))) (ty := .double) (C := "MashEnzymesModel") (T := F_N) (N := 14) hx hb hts in_N t_N t_N_ok n_N hown hK hP hD hS 0 rfl rfl 5 (by decide) (hts _ tw_f_N_32) (fun _ h9 => h9) rfl (by decide +kernel) rfl rfl (Nat.le_of_ble_eq_true rfl) dN_grain_64 (fun H locs hP hD hS => ?_)
                have hP : va_P (dC, dI) cls (wN ad cA (vf_upd a 1 (FP.dadd (a 1) (FP.dmul kg st9))) Tm Ac gt lt (FP.dadd ts (FP.dmul kg st9)) nw st hs ht dc pa ib ac) H := hP
                have hD : va_D A (wN ad cA (vf_upd a 1 (FP.dadd (a 1) (FP.dmul kg st9))) Tm Ac gt lt (FP.dadd ts (FP.dmul kg st9)) nw st hs ht dc pa ib ac) := hD
                refine lv_aload_n hx hb dN_grain_67 rfl (lv_at hl 0 rfl) ?_
                refine va_get (D := (dC, dI)) (ci := 3) (v := .ref (ad 1)) (C := "MashEnzymesModel") (T := F_N) (N := 14) hx hb hts in_N hown hK hP 0 rfl rfl 0 (by decide) (hts _ tw_f_N_9) (fun _ h9 => h9) rfl dN_grain_68 ?_
                refine lv_bipush (v := 8) hx hb dN_grain_71 (by decide) ?_
                refine lv_aload_n hx hb dN_grain_73 rfl (lv_at hl 0 rfl) ?_
                refine va_get (D := (dC, dI)) (ci := 3) (v := .ref (ad 1)) (C := "MashEnzymesModel") (T := F_N) (N := 14) hx hb hts in_N hown hK hP 0 rfl rfl 0 (by decide) (hts _ tw_f_N_9) (fun _ h9 => h9) rfl dN_grain_74 ?_
                refine lv_bipush (v := 8) hx hb dN_grain_77 (by decide) ?_
                refine ct_dald (k := 8) (v := a 8) hx hb hK hP 1 0 rfl rfl (by unfold vp_in; decide) (rfl) (rfl) dN_grain_79 ?_
                refine lv_dload_n hx hb dN_grain_80 rfl (lv_at hl 1 rfl) ?_
                refine lv_iload hx hb dN_grain_81 (lv_at hl 3 rfl) ?_
                refine lv_if_ne (tgt := 92) hx hb dN_grain_83 (by decide) (fun c_9 => ?_) (fun c_9 => ?_)
                · refine lv_iload hx hb dN_grain_92 (lv_at hl 3 rfl) ?_
                  refine lv_iconst (v := 1) hx hb dN_grain_94 (by decide) ?_
                  refine lv_icmp_ne (tgt := 104) hx hb dN_grain_95 (by decide) (fun c_10 => ?_) (fun c_10 => ?_)
                  · exact (absurd rfl c_10)
                  · refine lv_ldc2d hx hb hown (hts _ tw_d_N_38) dN_grain_98 ?_
                    refine lv_goto (tgt := 107) hx hb dN_grain_101 (by decide) ?_
                    refine lv_dmul hx hb dN_grain_107 (by rw [← gp_c.2.1]; exact hok9.2.2.2.1) ?_
                    refine ct_topd (y := FP.dmul kg (gpD 1)) (by rw [gp_c.2.1]) ?_
                    refine lv_dadd hx hb dN_grain_108 (hok9.2.2.2.2.1) ?_
                    refine ct_dast (k := 8) (w1 := (wN ad cA (gr2 kg st9 1 a) Tm Ac gt lt (FP.dadd ts (FP.dmul kg st9)) nw st hs ht dc pa ib ac)) hx hb hK hP hD hS 1 0 rfl rfl (by unfold vp_in; decide) (rfl) (rfl) dN_grain_109 (fun H locs hP hD hS => ?_)
                    refine lv_iload hx hb dN_grain_110 (lv_at hl 3 rfl) ?_
                    refine lv_if_ne (tgt := 196) hx hb dN_grain_112 (by decide) (fun c_11 => ?_) (fun c_11 => ?_)
                    · refine lv_iload hx hb dN_grain_196 (lv_at hl 3 rfl) ?_
                      refine lv_iconst (v := 2) hx hb dN_grain_198 (by decide) ?_
                      refine lv_icmp_ne (tgt := 282) hx hb dN_grain_199 (by decide) (fun c_12 => ?_) (fun c_12 => ?_)
                      · have hgi := grE_id (b := gr2 kg st9 1 a) (k := 1) (kg := kg) (fun i hi => by rw [gr2_at]; exact hz1 (nI_clamp (by decide)) i hi)
                        refine lv_aload_n hx hb dN_grain_282 rfl (lv_at hl 0 rfl) ?_
                        refine lv_iconst (v := 1) hx hb dN_grain_283 (by decide) ?_
                        refine va_put (D := (dC, dI)) (ci := 3) (v := .int 1) (ty := .boolean) (C := "MashEnzymesModel") (T := F_N) (N := 14) hx hb hts in_N t_N t_N_ok n_N hown hK hP hD hS 0 rfl rfl 3 (by decide) (hts _ tw_f_N_50) (fun _ h9 => h9) rfl (by decide +kernel) rfl rfl (Nat.le_of_ble_eq_true rfl) dN_grain_284 (fun H locs hP hD hS => ?_)
                        have hP : va_P (dC, dI) cls (wN ad cA (gr2 kg st9 1 a) Tm Ac 1 lt (FP.dadd ts (FP.dmul kg st9)) nw st hs ht dc pa ib ac) H := hP
                        have hD : va_D A (wN ad cA (gr2 kg st9 1 a) Tm Ac 1 lt (FP.dadd ts (FP.dmul kg st9)) nw st hs ht dc pa ib ac) := hD
                        refine lv_iconst (v := 1) hx hb dN_grain_287 (by decide) ?_
                        exact ct_ret1 hx hb hr rfl hlocks (by unfold grA; rw [hgi]; exact hP) hK (by unfold grA; rw [hgi]; exact hD) hS hz rfl dN_grain_288
                      · exact (absurd c_12 (by decide))
                    · exact (absurd c_11 (by decide))
                · exact (absurd c_9 (by decide))
              · refine lv_aload_n hx hb dN_grain_39 rfl (lv_at hl 0 rfl) ?_
                refine va_get (D := (dC, dI)) (ci := 3) (v := .ref (ad 1)) (C := "MashEnzymesModel") (T := F_N) (N := 14) hx hb hts in_N hown hK hP 0 rfl rfl 0 (by decide) (hts _ tw_f_N_9) (fun _ h9 => h9) rfl dN_grain_40 ?_
                refine lv_iconst (v := 1) hx hb dN_grain_43 (by decide) ?_
                refine lv_aload_n hx hb dN_grain_44 rfl (lv_at hl 0 rfl) ?_
                refine va_get (D := (dC, dI)) (ci := 3) (v := .ref (ad 1)) (C := "MashEnzymesModel") (T := F_N) (N := 14) hx hb hts in_N hown hK hP 0 rfl rfl 0 (by decide) (hts _ tw_f_N_9) (fun _ h9 => h9) rfl dN_grain_45 ?_
                refine lv_iconst (v := 1) hx hb dN_grain_48 (by decide) ?_
                refine ct_dald (k := 1) (v := a 1) hx hb hK hP 1 0 rfl rfl (by unfold vp_in; decide) (rfl) (rfl) dN_grain_49 ?_
                refine lv_dload_n hx hb dN_grain_50 rfl (lv_at hl 1 rfl) ?_
                refine lv_dload_n hx hb dN_grain_51 rfl (lv_at hl 2 rfl) ?_
                refine lv_dmul hx hb dN_grain_52 (hok9.1) ?_
                refine lv_dadd hx hb dN_grain_53 (hok9.2.1) ?_
                refine ct_dast (k := 1) (w1 := (wN ad cA (vf_upd a 1 (FP.dadd (a 1) (FP.dmul kg st9))) Tm Ac gt lt ts nw st hs ht dc pa ib ac)) hx hb hK hP hD hS 1 0 rfl rfl (by unfold vp_in; decide) (rfl) (rfl) dN_grain_54 (fun H locs hP hD hS => ?_)
                refine lv_aload_n hx hb dN_grain_55 rfl (lv_at hl 0 rfl) ?_
                refine lv_aload_n hx hb dN_grain_56 rfl (lv_at hl 0 rfl) ?_
                refine va_get (D := (dC, dI)) (ci := 3) (v := .double ts) (C := "MashEnzymesModel") (T := F_N) (N := 14) hx hb hts in_N hown hK hP 0 rfl rfl 5 (by decide) (hts _ tw_f_N_32) (fun _ h9 => h9) rfl dN_grain_57 ?_
                refine lv_dload_n hx hb dN_grain_60 rfl (lv_at hl 1 rfl) ?_
                refine lv_dload_n hx hb dN_grain_61 rfl (lv_at hl 2 rfl) ?_
                refine lv_dmul hx hb dN_grain_62 (hok9.1) ?_
                refine lv_dadd hx hb dN_grain_63 (hok9.2.2.1) ?_
                refine va_put (D := (dC, dI)) (ci := 3) (v := .double (FP.dadd ts (FP.dmul kg st9))) (ty := .double) (C := "MashEnzymesModel") (T := F_N) (N := 14) hx hb hts in_N t_N t_N_ok n_N hown hK hP hD hS 0 rfl rfl 5 (by decide) (hts _ tw_f_N_32) (fun _ h9 => h9) rfl (by decide +kernel) rfl rfl (Nat.le_of_ble_eq_true rfl) dN_grain_64 (fun H locs hP hD hS => ?_)
                have hP : va_P (dC, dI) cls (wN ad cA (vf_upd a 1 (FP.dadd (a 1) (FP.dmul kg st9))) Tm Ac gt lt (FP.dadd ts (FP.dmul kg st9)) nw st hs ht dc pa ib ac) H := hP
                have hD : va_D A (wN ad cA (vf_upd a 1 (FP.dadd (a 1) (FP.dmul kg st9))) Tm Ac gt lt (FP.dadd ts (FP.dmul kg st9)) nw st hs ht dc pa ib ac) := hD
                refine lv_aload_n hx hb dN_grain_67 rfl (lv_at hl 0 rfl) ?_
                refine va_get (D := (dC, dI)) (ci := 3) (v := .ref (ad 1)) (C := "MashEnzymesModel") (T := F_N) (N := 14) hx hb hts in_N hown hK hP 0 rfl rfl 0 (by decide) (hts _ tw_f_N_9) (fun _ h9 => h9) rfl dN_grain_68 ?_
                refine lv_bipush (v := 8) hx hb dN_grain_71 (by decide) ?_
                refine lv_aload_n hx hb dN_grain_73 rfl (lv_at hl 0 rfl) ?_
                refine va_get (D := (dC, dI)) (ci := 3) (v := .ref (ad 1)) (C := "MashEnzymesModel") (T := F_N) (N := 14) hx hb hts in_N hown hK hP 0 rfl rfl 0 (by decide) (hts _ tw_f_N_9) (fun _ h9 => h9) rfl dN_grain_74 ?_
                refine lv_bipush (v := 8) hx hb dN_grain_77 (by decide) ?_
                refine ct_dald (k := 8) (v := a 8) hx hb hK hP 1 0 rfl rfl (by unfold vp_in; decide) (rfl) (rfl) dN_grain_79 ?_
                refine lv_dload_n hx hb dN_grain_80 rfl (lv_at hl 1 rfl) ?_
                refine lv_iload hx hb dN_grain_81 (lv_at hl 3 rfl) ?_
                refine lv_if_ne (tgt := 92) hx hb dN_grain_83 (by decide) (fun c_13 => ?_) (fun c_13 => ?_)
                · refine lv_iload hx hb dN_grain_92 (lv_at hl 3 rfl) ?_
                  refine lv_iconst (v := 1) hx hb dN_grain_94 (by decide) ?_
                  refine lv_icmp_ne (tgt := 104) hx hb dN_grain_95 (by decide) (fun c_14 => ?_) (fun c_14 => ?_)
                  · refine lv_ldc2d hx hb hown (hts _ tw_d_N_40) dN_grain_104 ?_
                    refine lv_dmul hx hb dN_grain_107 (by rw [← gp_c.2.2]; exact hok9.2.2.2.1) ?_
                    refine ct_topd (y := FP.dmul kg (gpD 2)) (by rw [gp_c.2.2]) ?_
                    refine lv_dadd hx hb dN_grain_108 (hok9.2.2.2.2.1) ?_
                    refine ct_dast (k := 8) (w1 := (wN ad cA (gr2 kg st9 2 a) Tm Ac gt lt (FP.dadd ts (FP.dmul kg st9)) nw st hs ht dc pa ib ac)) hx hb hK hP hD hS 1 0 rfl rfl (by unfold vp_in; decide) (rfl) (rfl) dN_grain_109 (fun H locs hP hD hS => ?_)
                    refine lv_iload hx hb dN_grain_110 (lv_at hl 3 rfl) ?_
                    refine lv_if_ne (tgt := 196) hx hb dN_grain_112 (by decide) (fun c_15 => ?_) (fun c_15 => ?_)
                    · refine lv_iload hx hb dN_grain_196 (lv_at hl 3 rfl) ?_
                      refine lv_iconst (v := 2) hx hb dN_grain_198 (by decide) ?_
                      refine lv_icmp_ne (tgt := 282) hx hb dN_grain_199 (by decide) (fun c_16 => ?_) (fun c_16 => ?_)
                      · exact (absurd rfl c_16)
                      · refine gNg_2 (l := l) (e := e) (below := below) (gr2 kg st9 2 a) kg Tm Ac gt lt (FP.dadd ts (FP.dmul kg st9)) nw st hs ht dc pa ib ac hx hb hts hown hK (fun i hi => by rw [gr2_at]; exact hok9.2.2.2.2.2 i hi) (fun ls H locs hP hD hS hl => ?_) ls _ _ hP hD hS (lv_sub hl [1, 0] rfl)
                        refine lv_aload_n hx hb dN_grain_282 rfl (lv_at hl 1 rfl) ?_
                        refine lv_iconst (v := 1) hx hb dN_grain_283 (by decide) ?_
                        refine va_put (D := (dC, dI)) (ci := 3) (v := .int 1) (ty := .boolean) (C := "MashEnzymesModel") (T := F_N) (N := 14) hx hb hts in_N t_N t_N_ok n_N hown hK hP hD hS 0 rfl rfl 3 (by decide) (hts _ tw_f_N_50) (fun _ h9 => h9) rfl (by decide +kernel) rfl rfl (Nat.le_of_ble_eq_true rfl) dN_grain_284 (fun H locs hP hD hS => ?_)
                        have hP : va_P (dC, dI) cls (wN ad cA (grE kg 2 4 (gr2 kg st9 2 a)) Tm Ac 1 lt (FP.dadd ts (FP.dmul kg st9)) nw st hs ht dc pa ib ac) H := hP
                        have hD : va_D A (wN ad cA (grE kg 2 4 (gr2 kg st9 2 a)) Tm Ac 1 lt (FP.dadd ts (FP.dmul kg st9)) nw st hs ht dc pa ib ac) := hD
                        refine lv_iconst (v := 1) hx hb dN_grain_287 (by decide) ?_
                        exact ct_ret1 hx hb hr rfl hlocks hP hK hD hS hz rfl dN_grain_288
                    · exact (absurd c_15 (by decide))
                  · exact (absurd c_14 (by decide))
                · exact (absurd c_13 (by decide))
            · refine lv_iconst (v := 0) hx hb dN_grain_37 (by decide) ?_
              exact ct_ret0 hx hb hr rfl hlocks hP hK hD hS (fun h => c_6 (lt3_2 h.2.2.2.2.2)) rfl dN_grain_38

