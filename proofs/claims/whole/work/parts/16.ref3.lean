/-- the reference's decoctions lie in one array -/
def tkP (a : Nat → UInt64) (sh : UInt64) (k i : Nat) (pa : Nat → UInt64) : Nat → UInt64 := fun m => if 13 * k ≤ m ∧ m < 13 * k + i then FP.dmul (a (m - 13 * k)) sh else pa m
theorem tkP_0 (a : Nat → UInt64) (sh : UInt64) (k : Nat) (pa : Nat → UInt64) : tkP a sh k 0 pa = pa := funext fun m => if_neg (by omega)
theorem tkP_s (a : Nat → UInt64) (sh : UInt64) (k i : Nat) (pa : Nat → UInt64) : vf_upd (tkP a sh k i pa) (13 * k + i) (FP.dmul (a i) sh) = tkP a sh k (i + 1) pa := funext fun m => by
  unfold vf_upd tkP
  by_cases h : m = 13 * k + i
  · subst h
    rw [if_pos rfl, if_pos (by omega), show 13 * k + i - 13 * k = i by omega]
  · rw [if_neg h]
    by_cases h2 : 13 * k ≤ m ∧ m < 13 * k + i
    · rw [if_pos h2, if_pos (by omega)]
    · rw [if_neg h2, if_neg (by omega)]
theorem lt_of_nge {o : Option Ordering} (h : o ≠ none) (h2 : ¬ (o = some .gt ∨ o = some .eq)) : o = some .lt := by
  cases o with
  | none => exact absurd rfl h
  | some o => cases o with
    | lt => rfl
    | eq => exact absurd (Or.inr rfl) h2
    | gt => exact absurd (Or.inl rfl) h2
set_option maxHeartbeats 4000000 in
set_option maxRecDepth 100000 in
/-- take -/
theorem cN_take (l : Launch) (dC : Nat → ClassId) (dI : Nat → Nat → Nat) (tt : Nat → Nat) (sz : Nat) (ad : Nat → Nat) (cA : Nat → ClassId) (a : Nat → UInt64) (Tm Ac : UInt64) (gt lt : Int32) (ts : UInt64) (nw st : Int32) (hs : Nat → Int32) (ht : Nat → UInt64) (k : Nat) (pa : Nat → UInt64) (ib : Nat → Int32) (ac : Nat → UInt64) (sh : UInt64) (hns : nNo sh) (hk9 : k ≤ 8) (hok : tkS sh gt lt → ∀ i, i < 13 → vf_n64 (FP.dmul (a i) sh) ∧ vf_n64 (FP.dsub (a i) (FP.dmul (a i) sh))) : Ct l dC dI tt yN_take bN_take 4 (some .int) ({ frames := 1, cells := 0, slots := 0, locals := 20 }) (tN cA) [.ref (ad 0), .double sh] (wN ad cA a Tm Ac gt lt ts nw st hs ht (nI k) pa ib ac) sz (fun A => ctQc dC dI (tN cA) (tkS sh gt lt ∧ k < 8) (nI k) (wN ad cA (tkA a sh 13) Tm Ac gt lt ts nw st hs ht (nI (k + 1)) (tkP a sh k 13 pa) (upd ib k 0) ac) (tkR sh gt lt) (wN ad cA a Tm Ac gt lt ts nw st hs ht (nI k) pa ib ac) A) := by
  refine ct_of (by decide) (Nat.le_of_ble_eq_true rfl) ?_
  intro p e s m below meth c A ls hx hb hr hts hown hml hlocks hnm hA hS hP hK hD hT hl
  have hl : lv_has ls 4 [(0, .ref (ad 0)), (1, .double sh)] := hl
  refine lv_dload_n hx hb dN_take_0 rfl (lv_at hl 1 rfl) ?_
  refine lv_dconst0 hx hb dN_take_1 ?_
  refine ct_topd (y := 0) rfl ?_
  refine lv_dcmp hx hb dN_take_2 ?_
  refine lv_if_le (tgt := 19) hx hb dN_take_3 (by decide) (fun c_1 => ?_) (fun c_1 => ?_)
  · refine lv_iconst (v := (-1)) hx hb dN_take_19 (by decide) ?_
    exact ct_ret0 hx hb hr rfl hlocks hP hK hD hS (fun h => (fun h => (cv_l_le _).mp c_1 h.1) h.1) (tkR_0 (fun h => (cv_l_le _).mp c_1 h.1)) dN_take_20
  · have h_sh0 := (Classical.not_not.mp fun h => c_1 ((cv_l_le _).mpr h) : FP.dcmp sh 0 = some .gt)
    refine lv_dload_n hx hb dN_take_6 rfl (lv_at hl 1 rfl) ?_
    refine lv_dconst1 hx hb dN_take_7 ?_
    refine ct_topd (y := 4607182418800017408) rfl ?_
    refine lv_dcmp hx hb dN_take_8 ?_
    refine lv_if_ge (tgt := 19) hx hb dN_take_9 (by decide) (fun c_2 => ?_) (fun c_2 => ?_)
    · refine lv_iconst (v := (-1)) hx hb dN_take_19 (by decide) ?_
      exact ct_ret0 hx hb hr rfl hlocks hP hK hD hS (fun h => (fun h => by have h1 := h.2.1; have := (cv_l_ge _).mp c_2; rw [h1] at this; simp at this) h.1) (tkR_0 (fun h => by have h1 := h.2.1; have := (cv_l_ge _).mp c_2; rw [h1] at this; simp at this)) dN_take_20
    · have h_sh1 := (lt_of_nge (hns _ (by decide)) (fun h => c_2 ((cv_l_ge _).mpr h)) : FP.dcmp sh 4607182418800017408 = some .lt)
      refine lv_aload_n hx hb dN_take_12 rfl (lv_at hl 0 rfl) ?_
      refine ct_cvc (As := []) (rest := []) (wr := []) (w1 := (wN ad cA a Tm Ac gt lt ts nw st hs ht (nI k) pa ib ac)) (w0 := (wN ad cA a Tm Ac gt lt ts nw st hs ht (nI k) pa ib ac)) ⟨hx, hb, hml, hown, hts⟩ (cN_isEmpty l dC dI tt _ ad cA a Tm Ac gt lt ts nw st hs ht (nI k) pa ib ac) (gT_V tw_m_N_101 tw_i_yN_isEmpty tw_s_yN_isEmpty tw_I_N tw_c_yN_isEmpty) ⟨rfl, by decide +kernel, by decide +kernel, (by decide +kernel : (parseMethodDescriptor yN_isEmpty.desc).map (fun d => d.parameters.length) = some 0)⟩ ⟨by decide, by decide⟩ (ci := 3) rfl rfl rfl hP hD hK hS hA hT [0, 1, 2, 3, 4, 5, 6] [] [0, 1, 2, 3, 4, 5] (by decide) rfl rfl (by decide) (by decide) rfl hl.1 rfl (Nat.le_of_ble_eq_true rfl) dN_take_13 ⟨by decide, by decide⟩ (fun c_3 H locs hP hD hS => ?_) (fun c_3 H locs hP hD hS => ?_)
      · have hP : va_P (dC, dI) cls (wN ad cA a Tm Ac gt lt ts nw st hs ht (nI k) pa ib ac) H := hP
        have hD : va_D A (wN ad cA a Tm Ac gt lt ts nw st hs ht (nI k) pa ib ac) := hD
        refine lv_if_eq (tgt := 21) hx hb dN_take_16 (by decide) (fun c_4 => ?_) (fun c_4 => ?_)
        · exact (absurd c_4 (by decide))
        · refine lv_iconst (v := (-1)) hx hb dN_take_19 (by decide) ?_
          exact ct_ret0 hx hb hr rfl hlocks hP hK hD hS (fun h => h.1.2.2 c_3) (tkR_0 (fun h => h.2.2 c_3)) dN_take_20
      · have hP : va_P (dC, dI) cls (wN ad cA a Tm Ac gt lt ts nw st hs ht (nI k) pa ib ac) H := hP
        have hD : va_D A (wN ad cA a Tm Ac gt lt ts nw st hs ht (nI k) pa ib ac) := hD
        refine lv_if_eq (tgt := 21) hx hb dN_take_16 (by decide) (fun c_5 => ?_) (fun c_5 => ?_)
        · have hts9 : tkS sh gt lt := ⟨h_sh0, h_sh1, c_3⟩
          refine lv_aload_n hx hb dN_take_21 rfl (lv_at hl 0 rfl) ?_
          refine va_get (D := (dC, dI)) (ci := 3) (v := .int (nI k)) (C := "MashEnzymesModel") (T := F_N) (N := 14) hx hb hts in_N hown hK hP 0 rfl rfl 10 (by decide) (hts _ tw_f_N_111) (fun _ h9 => h9) rfl dN_take_22 ?_
          refine lv_bipush (v := 8) hx hb dN_take_25 (by decide) ?_
          refine lv_icmp_ne (tgt := 33) hx hb dN_take_27 (by decide) (fun c_6 => ?_) (fun c_6 => ?_)
          · have hk8 : k < 8 := Nat.lt_of_le_of_ne hk9 fun h => c_6 ((nI_eq (a := k) (b := 8) (by omega) (by decide)).mpr h)
            refine lv_iconst (v := 0) hx hb dN_take_33 (by decide) ?_
            refine ct_topi (y := nI 0) (rfl) ?_
            refine lv_istore_n (lv' := [(3, .int (nI 0)), (0, .ref (ad 0)), (1, .double sh)]) hx hb dN_take_34 rfl hl (by decide) rfl (fun ls hl => ?_)
            have key : ∀ (n i : Nat) (ls : Array Slot) (H : Heap) (locs : List Loc), n + i = 13 → va_P (dC, dI) cls (wN ad cA (tkA a sh i) Tm Ac gt lt ts nw st hs ht (nI k) (tkP a sh k i pa) ib ac) H → va_D A (wN ad cA (tkA a sh i) Tm Ac gt lt ts nw st hs ht (nI k) (tkP a sh k i pa) ib ac) → va_S A s.heap H locs → lv_has ls 4 [(3, .int (nI i)), (1, .double sh), (0, .ref (ad 0))] → W p l e ({ frames := 1, cells := 0, slots := 0, locals := 20 } : Room) s m ([.ref (ad 0), .double sh] : List Value).toArray below meth c H locs 0 0 (MQ below (ctQc dC dI (tN cA) (tkS sh gt lt ∧ k < 8) (nI k) (wN ad cA (tkA a sh 13) Tm Ac gt lt ts nw st hs ht (nI (k + 1)) (tkP a sh k 13 pa) (upd ib k 0) ac) (tkR sh gt lt) (wN ad cA a Tm Ac gt lt ts nw st hs ht (nI k) pa ib ac) A) ([.ref (ad 0), .double sh] : List Value).toArray s 0 0 A) (F0 m 35 ls []) := by
              intro n
              induction n with
              | zero =>
                intro i ls H locs hni hP hD hS hl
                refine lv_iload_n hx hb dN_take_35 rfl (lv_at hl 0 rfl) ?_
                refine lv_bipush (v := 13) hx hb dN_take_36 (by decide) ?_
                refine lv_icmp_ge (tgt := 90) hx hb dN_take_38 (by decide) (fun c_7 => ?_) (fun c_7 => ?_)
                · have hi : i = 13 := by omega
                  subst hi
                  refine lv_aload_n hx hb dN_take_90 rfl (lv_at hl 2 rfl) ?_
                  refine va_get (D := (dC, dI)) (ci := 3) (v := .ref (ad 5)) (C := "MashEnzymesModel") (T := F_N) (N := 14) hx hb hts in_N hown hK hP 0 rfl rfl 12 (by decide) (hts _ tw_f_N_23) (fun _ h9 => h9) rfl dN_take_91 ?_
                  refine lv_aload_n hx hb dN_take_94 rfl (lv_at hl 2 rfl) ?_
                  refine va_get (D := (dC, dI)) (ci := 3) (v := .int (nI k)) (C := "MashEnzymesModel") (T := F_N) (N := 14) hx hb hts in_N hown hK hP 0 rfl rfl 10 (by decide) (hts _ tw_f_N_111) (fun _ h9 => h9) rfl dN_take_95 ?_
                  refine lv_iconst (v := 0) hx hb dN_take_98 (by decide) ?_
                  refine va_zast hx hb hK hP hD hS 5 4 rfl rfl (vp_in_nI hk8 (by decide)) dN_take_99 (fun H locs hP hD hS => ?_)
                  rw [nI_clamp (show k < 2 ^ 31 by omega)] at hP hD
                  have hP : va_P (dC, dI) cls (wN ad cA (tkA a sh 13) Tm Ac gt lt ts nw st hs ht (nI k) (tkP a sh k 13 pa) (upd ib k 0) ac) H := hP
                  have hD : va_D A (wN ad cA (tkA a sh 13) Tm Ac gt lt ts nw st hs ht (nI k) (tkP a sh k 13 pa) (upd ib k 0) ac) := hD
                  refine lv_aload_n hx hb dN_take_100 rfl (lv_at hl 2 rfl) ?_
                  refine lv_dup hx hb dN_take_101 rfl ?_
                  refine va_get (D := (dC, dI)) (ci := 3) (v := .int (nI k)) (C := "MashEnzymesModel") (T := F_N) (N := 14) hx hb hts in_N hown hK hP 0 rfl rfl 10 (by decide) (hts _ tw_f_N_111) (fun _ h9 => h9) rfl dN_take_102 ?_
                  refine lv_iconst (v := 1) hx hb dN_take_105 (by decide) ?_
                  refine lv_iadd hx hb dN_take_106 ?_
                  refine ct_topi (y := nI (k + 1)) (nI_1 k) ?_
                  refine va_put (D := (dC, dI)) (ci := 3) (v := .int (nI (k + 1))) (ty := .int) (C := "MashEnzymesModel") (T := F_N) (N := 14) hx hb hts in_N t_N t_N_ok n_N hown hK hP hD hS 0 rfl rfl 10 (by decide) (hts _ tw_f_N_111) (fun _ h9 => h9) rfl (by decide +kernel) rfl rfl (Nat.le_of_ble_eq_true rfl) dN_take_107 (fun H locs hP hD hS => ?_)
                  have hP : va_P (dC, dI) cls (wN ad cA (tkA a sh 13) Tm Ac gt lt ts nw st hs ht (nI (k + 1)) (tkP a sh k 13 pa) (upd ib k 0) ac) H := hP
                  have hD : va_D A (wN ad cA (tkA a sh 13) Tm Ac gt lt ts nw st hs ht (nI (k + 1)) (tkP a sh k 13 pa) (upd ib k 0) ac) := hD
                  refine lv_aload_n hx hb dN_take_110 rfl (lv_at hl 2 rfl) ?_
                  refine va_get (D := (dC, dI)) (ci := 3) (v := .int (nI (k + 1))) (C := "MashEnzymesModel") (T := F_N) (N := 14) hx hb hts in_N hown hK hP 0 rfl rfl 10 (by decide) (hts _ tw_f_N_111) (fun _ h9 => h9) rfl dN_take_111 ?_
                  refine lv_iconst (v := 1) hx hb dN_take_114 (by decide) ?_
                  refine lv_isub hx hb dN_take_115 ?_
                  refine ct_topi (y := nI k) (nI_pred k) ?_
                  exact ct_ret1 hx hb hr rfl hlocks hP hK hD hS ⟨hts9, hk8⟩ rfl dN_take_116
                · exact absurd (nI_le (a := 13) (b := i) (by omega) (by omega)) c_7
              | succ n ih =>
                intro i ls H locs hni hP hD hS hl
                refine lv_iload_n hx hb dN_take_35 rfl (lv_at hl 0 rfl) ?_
                refine lv_bipush (v := 13) hx hb dN_take_36 (by decide) ?_
                refine lv_icmp_ge (tgt := 90) hx hb dN_take_38 (by decide) (fun c_8 => ?_) (fun c_8 => ?_)
                · exact absurd ((nI_leI (a := 13) (b := i) (by decide) (by omega)).mp c_8) (by omega)
                · have hi : i < 13 := by omega
                  refine lv_aload_n hx hb dN_take_41 rfl (lv_at hl 2 rfl) ?_
                  refine va_get (D := (dC, dI)) (ci := 3) (v := .ref (ad 4)) (C := "MashEnzymesModel") (T := F_N) (N := 14) hx hb hts in_N hown hK hP 0 rfl rfl 11 (by decide) (hts _ tw_f_N_20) (fun _ h9 => h9) rfl dN_take_42 ?_
                  refine lv_bipush (v := 13) hx hb dN_take_45 (by decide) ?_
                  refine lv_aload_n hx hb dN_take_47 rfl (lv_at hl 2 rfl) ?_
                  refine va_get (D := (dC, dI)) (ci := 3) (v := .int (nI k)) (C := "MashEnzymesModel") (T := F_N) (N := 14) hx hb hts in_N hown hK hP 0 rfl rfl 10 (by decide) (hts _ tw_f_N_111) (fun _ h9 => h9) rfl dN_take_48 ?_
                  refine lv_imul hx hb dN_take_51 ?_
                  refine ct_topi (y := nI (13 * k)) (by rw [show (13 : Int32) = nI 13 from rfl, pk_mul]) ?_
                  refine lv_iload_n hx hb dN_take_52 rfl (lv_at hl 0 rfl) ?_
                  refine lv_iadd hx hb dN_take_53 ?_
                  refine ct_topi (y := nI (13 * k + i)) (nI_add _ _) ?_
                  refine lv_aload_n hx hb dN_take_54 rfl (lv_at hl 2 rfl) ?_
                  refine va_get (D := (dC, dI)) (ci := 3) (v := .ref (ad 1)) (C := "MashEnzymesModel") (T := F_N) (N := 14) hx hb hts in_N hown hK hP 0 rfl rfl 0 (by decide) (hts _ tw_f_N_9) (fun _ h9 => h9) rfl dN_take_55 ?_
                  refine lv_iload_n hx hb dN_take_58 rfl (lv_at hl 0 rfl) ?_
                  refine ct_dald (k := i) (v := a i) hx hb hK hP 1 0 rfl rfl (vp_in_nI (by omega) (by decide)) (nI_clamp (by omega)) (tkA_at a sh i) dN_take_59 ?_
                  refine lv_dload_n hx hb dN_take_60 rfl (lv_at hl 1 rfl) ?_
                  refine lv_dmul hx hb dN_take_61 ((hok hts9 i hi).1) ?_
                  refine ct_dast (k := (13 * k + i)) (w1 := (wN ad cA (tkA a sh i) Tm Ac gt lt ts nw st hs ht (nI k) (tkP a sh k (i + 1) pa) ib ac)) hx hb hK hP hD hS 4 3 rfl rfl (vp_in_nI (by omega) (by decide)) (nI_clamp (by omega)) (by rw [← tkP_s]; rfl) dN_take_62 (fun H locs hP hD hS => ?_)
                  refine lv_aload_n hx hb dN_take_63 rfl (lv_at hl 2 rfl) ?_
                  refine va_get (D := (dC, dI)) (ci := 3) (v := .ref (ad 1)) (C := "MashEnzymesModel") (T := F_N) (N := 14) hx hb hts in_N hown hK hP 0 rfl rfl 0 (by decide) (hts _ tw_f_N_9) (fun _ h9 => h9) rfl dN_take_64 ?_
                  refine lv_iload_n hx hb dN_take_67 rfl (lv_at hl 0 rfl) ?_
                  refine lv_aload_n hx hb dN_take_68 rfl (lv_at hl 2 rfl) ?_
                  refine va_get (D := (dC, dI)) (ci := 3) (v := .ref (ad 1)) (C := "MashEnzymesModel") (T := F_N) (N := 14) hx hb hts in_N hown hK hP 0 rfl rfl 0 (by decide) (hts _ tw_f_N_9) (fun _ h9 => h9) rfl dN_take_69 ?_
                  refine lv_iload_n hx hb dN_take_72 rfl (lv_at hl 0 rfl) ?_
                  refine ct_dald (k := i) (v := a i) hx hb hK hP 1 0 rfl rfl (vp_in_nI (by omega) (by decide)) (nI_clamp (by omega)) (tkA_at a sh i) dN_take_73 ?_
                  refine lv_aload_n hx hb dN_take_74 rfl (lv_at hl 2 rfl) ?_
                  refine va_get (D := (dC, dI)) (ci := 3) (v := .ref (ad 1)) (C := "MashEnzymesModel") (T := F_N) (N := 14) hx hb hts in_N hown hK hP 0 rfl rfl 0 (by decide) (hts _ tw_f_N_9) (fun _ h9 => h9) rfl dN_take_75 ?_
                  refine lv_iload_n hx hb dN_take_78 rfl (lv_at hl 0 rfl) ?_
                  refine ct_dald (k := i) (v := a i) hx hb hK hP 1 0 rfl rfl (vp_in_nI (by omega) (by decide)) (nI_clamp (by omega)) (tkA_at a sh i) dN_take_79 ?_
                  refine lv_dload_n hx hb dN_take_80 rfl (lv_at hl 1 rfl) ?_
                  refine lv_dmul hx hb dN_take_81 ((hok hts9 i hi).1) ?_
                  refine lv_dsub hx hb dN_take_82 ((hok hts9 i hi).2) ?_
                  refine ct_dast (k := i) (w1 := (wN ad cA (tkA a sh (i + 1)) Tm Ac gt lt ts nw st hs ht (nI k) (tkP a sh k (i + 1) pa) ib ac)) hx hb hK hP hD hS 1 0 rfl rfl (vp_in_nI (by omega) (by decide)) (nI_clamp (by omega)) (by rw [← tkA_s]; rfl) dN_take_83 (fun H locs hP hD hS => ?_)
                  refine lv_iinc (v := (nI (i + 1))) (lv' := [(3, .int (nI (i + 1))), (1, .double sh), (0, .ref (ad 0))]) hx hb dN_take_84 hl (k := 0) rfl (nI_1 i) (by decide) rfl (fun ls hl => ?_)
                  refine lv_goto (tgt := 35) hx hb dN_take_87 (by decide) ?_
                  exact ih (i + 1) ls H locs (by omega) hP hD hS (lv_sub hl [0, 1, 2] rfl)
            have hP : va_P (dC, dI) cls (wN ad cA (tkA a sh 0) Tm Ac gt lt ts nw st hs ht (nI k) (tkP a sh k 0 pa) ib ac) _ := (by rw [tkA_0, tkP_0]; exact hP)
            have hD : va_D A (wN ad cA (tkA a sh 0) Tm Ac gt lt ts nw st hs ht (nI k) (tkP a sh k 0 pa) ib ac) := (by rw [tkA_0, tkP_0]; exact hD)
            exact key 13 0 ls _ _ rfl hP hD hS (lv_sub hl [0, 2, 1] rfl)
          · refine lv_bipush (v := (-2)) hx hb dN_take_30 (by decide) ?_
            exact ct_ret0 hx hb hr rfl hlocks hP hK hD hS (fun h => absurd ((nI_eq (a := k) (b := 8) (by omega) (by decide)).mp c_6) (by have := h.2; omega)) (tkR_1 hts9) dN_take_32
        · exact absurd rfl c_5

set_option maxHeartbeats 4000000 in
set_option maxRecDepth 100000 in
/-- back -/
theorem cN_back (l : Launch) (dC : Nat → ClassId) (dI : Nat → Nat → Nat) (tt : Nat → Nat) (sz : Nat) (ad : Nat → Nat) (cA : Nat → ClassId) (a : Nat → UInt64) (Tm Ac : UInt64) (gt lt : Int32) (ts : UInt64) (nw st : Int32) (hs : Nat → Int32) (ht : Nat → UInt64) (kd : Nat) (pa : Nat → UInt64) (ib : Nat → Int32) (ac : Nat → UInt64) (dec : Int32) (d : UInt64) (hnd : nNo d) (hk9 : kd ≤ 8) (hok : bkOK ib (nI kd) dec d → okM Tm (a 0) d (pa (13 * dec.toNatClampNeg)) ∧ ∀ i, i < 13 → vf_n64 (FP.dadd (a i) (pa ((13 * dec.toNatClampNeg) + i)))) : Ct l dC dI tt yN_back bN_back 7 (some .boolean) ({ frames := 0, cells := 0, slots := 0, locals := 0 }) (tN cA) [.ref (ad 0), .int dec, .double d] (wN ad cA a Tm Ac gt lt ts nw st hs ht (nI kd) pa ib ac) sz (fun A => ctQc dC dI (tN cA) (bkOK ib (nI kd) dec d) 1 (wN ad cA (bkA a (fun m => pa ((13 * dec.toNatClampNeg) + m)) 13) (mixD Tm (a 0) d (pa (13 * dec.toNatClampNeg))) Ac gt lt ts nw st hs ht (nI kd) pa (upd ib dec.toNatClampNeg 1) ac) 0 (wN ad cA a Tm Ac gt lt ts nw st hs ht (nI kd) pa ib ac) A) := by
  refine ct_of (by decide) (Nat.le_of_ble_eq_true rfl) ?_
  intro p e s m below meth c A ls hx hb hr hts hown hml hlocks hnm hA hS hP hK hD hT hl
  have hl : lv_has ls 7 [(0, .ref (ad 0)), (1, .int dec), (2, .double d)] := hl
  have htp := tpOK_iff (hnd 0 (by decide)) (hnd _ (by decide) : FP.dcmp d 4636737291354636288 ≠ none)
  refine lv_iload_n hx hb dN_back_0 rfl (lv_at hl 1 rfl) ?_
  refine lv_if_lt (tgt := 35) hx hb dN_back_1 (by decide) (fun c_1 => ?_) (fun c_1 => ?_)
  · refine lv_iconst (v := 0) hx hb dN_back_35 (by decide) ?_
    exact ct_ret0 hx hb hr rfl hlocks hP hK hD hS (fun h => Int32.not_lt.mpr h.1 c_1) rfl dN_back_36
  · have h_0 := (c_1 : ¬ dec < 0)
    refine lv_iload_n hx hb dN_back_4 rfl (lv_at hl 1 rfl) ?_
    refine lv_aload_n hx hb dN_back_5 rfl (lv_at hl 0 rfl) ?_
    refine va_get (D := (dC, dI)) (ci := 3) (v := .int (nI kd)) (C := "MashEnzymesModel") (T := F_N) (N := 14) hx hb hts in_N hown hK hP 0 rfl rfl 10 (by decide) (hts _ tw_f_N_111) (fun _ h9 => h9) rfl dN_back_6 ?_
    refine lv_icmp_ge (tgt := 35) hx hb dN_back_9 (by decide) (fun c_2 => ?_) (fun c_2 => ?_)
    · refine lv_iconst (v := 0) hx hb dN_back_35 (by decide) ?_
      exact ct_ret0 hx hb hr rfl hlocks hP hK hD hS (fun h => Int32.not_lt.mpr c_2 h.2.1) rfl dN_back_36
    · have h_1 := (Int32.not_le.mp c_2 : dec < nI kd)
      obtain ⟨k, hk, rfl⟩ := nI_of (x := dec) h_0
      have hkd : k < kd := (nI_ltI hk (by omega)).mp h_1
      have hk8 : k < 8 := by omega
      have hkc : (nI k).toNatClampNeg = k := nI_clamp hk
      refine lv_aload_n hx hb dN_back_12 rfl (lv_at hl 0 rfl) ?_
      refine va_get (D := (dC, dI)) (ci := 3) (v := .ref (ad 5)) (C := "MashEnzymesModel") (T := F_N) (N := 14) hx hb hts in_N hown hK hP 0 rfl rfl 12 (by decide) (hts _ tw_f_N_23) (fun _ h9 => h9) rfl dN_back_13 ?_
      refine lv_iload_n hx hb dN_back_16 rfl (lv_at hl 1 rfl) ?_
      refine va_zald hx hb hK hP 5 4 rfl rfl (vp_in_nI hk8 (by decide)) dN_back_17 ?_
      rw [hkc]
      refine lv_if_ne (tgt := 35) hx hb dN_back_18 (by decide) (fun c_3 => ?_) (fun c_3 => ?_)
      · refine lv_iconst (v := 0) hx hb dN_back_35 (by decide) ?_
        exact ct_ret0 hx hb hr rfl hlocks hP hK hD hS (fun h => c_3 (by have := h.2.2.1; rwa [hkc] at this)) rfl dN_back_36
      · have h_2 : ib k = 0 := c_3
        refine lv_dload_n hx hb dN_back_21 rfl (lv_at hl 2 rfl) ?_
        refine lv_dconst0 hx hb dN_back_22 ?_
        refine ct_topd (y := 0) rfl ?_
        refine lv_dcmp hx hb dN_back_23 ?_
        refine lv_if_lt (tgt := 35) hx hb dN_back_24 (by decide) (fun c_4 => ?_) (fun c_4 => ?_)
        · refine lv_iconst (v := 0) hx hb dN_back_35 (by decide) ?_
          exact ct_ret0 hx hb hr rfl hlocks hP hK hD hS (fun h => (htp.mp h.2.2.2).1 ((cvn_l (hnd 0 (by decide))).mp c_4)) rfl dN_back_36
        · have h_d0 := (fun h => c_4 ((cvn_l (hnd 0 (by decide))).mpr h) : ¬ FP.dcmp d 0 = some .lt)
          refine lv_dload_n hx hb dN_back_27 rfl (lv_at hl 2 rfl) ?_
          refine lv_ldc2d hx hb hown (hts _ tw_d_N_56) dN_back_28 ?_
          refine lv_dcmp hx hb dN_back_31 ?_
          refine lv_if_le (tgt := 37) hx hb dN_back_32 (by decide) (fun c_5 => ?_) (fun c_5 => ?_)
          · have h_d1 := ((cv_l_le _).mp c_5 : ¬ FP.dcmp d 4636737291354636288 = some .gt)
            have hbk : bkOK ib (nI kd) (nI k) d := ⟨Int32.not_lt.mp h_0, h_1, by rw [hkc]; exact h_2, htp.mpr ⟨h_d0, h_d1⟩⟩
            have hok9 := hok hbk
            rw [hkc] at hok9
            have key : ∀ (n i : Nat) (ls : Array Slot) (H : Heap) (locs : List Loc), n + i = 13 → va_P (dC, dI) cls (wN ad cA (bkA a (fun m => pa (13 * k + m)) i) (mixD Tm (a 0) d (pa (13 * k))) Ac gt lt ts nw st hs ht (nI kd) pa ib ac) H → va_D A (wN ad cA (bkA a (fun m => pa (13 * k + m)) i) (mixD Tm (a 0) d (pa (13 * k))) Ac gt lt ts nw st hs ht (nI kd) pa ib ac) → va_S A s.heap H locs → lv_has ls 7 [(6, .int (nI i)), (1, .int (nI k)), (0, .ref (ad 0))] → W p l e ({ frames := 0, cells := 0, slots := 0, locals := 0 } : Room) s m ([.ref (ad 0), .int (nI k), .double d] : List Value).toArray below meth c H locs 0 0 (MQ below (ctQc dC dI (tN cA) (bkOK ib (nI kd) (nI k) d) 1 (wN ad cA (bkA a (fun m => pa (13 * k + m)) 13) (mixD Tm (a 0) d (pa (13 * k))) Ac gt lt ts nw st hs ht (nI kd) pa (upd ib k 1) ac) 0 (wN ad cA a Tm Ac gt lt ts nw st hs ht (nI kd) pa ib ac) A) ([.ref (ad 0), .int (nI k), .double d] : List Value).toArray s 0 0 A) (F0 m 95 ls []) := by
              intro n
              induction n with
              | zero =>
                intro i ls H locs hni hP hD hS hl
                refine lv_iload hx hb dN_back_95 (lv_at hl 0 rfl) ?_
                refine lv_bipush (v := 13) hx hb dN_back_97 (by decide) ?_
                refine lv_icmp_ge (tgt := 135) hx hb dN_back_99 (by decide) (fun c_6 => ?_) (fun c_6 => ?_)
                · have hi : i = 13 := by omega
                  subst hi
                  refine lv_aload_n hx hb dN_back_135 rfl (lv_at hl 2 rfl) ?_
                  refine va_get (D := (dC, dI)) (ci := 3) (v := .ref (ad 5)) (C := "MashEnzymesModel") (T := F_N) (N := 14) hx hb hts in_N hown hK hP 0 rfl rfl 12 (by decide) (hts _ tw_f_N_23) (fun _ h9 => h9) rfl dN_back_136 ?_
                  refine lv_iload_n hx hb dN_back_139 rfl (lv_at hl 1 rfl) ?_
                  refine lv_iconst (v := 1) hx hb dN_back_140 (by decide) ?_
                  refine va_zast hx hb hK hP hD hS 5 4 rfl rfl (vp_in_nI hk8 (by decide)) dN_back_141 (fun H locs hP hD hS => ?_)
                  rw [hkc] at hP hD
                  have hP : va_P (dC, dI) cls (wN ad cA (bkA a (fun m => pa (13 * k + m)) 13) (mixD Tm (a 0) d (pa (13 * k))) Ac gt lt ts nw st hs ht (nI kd) pa (upd ib k 1) ac) H := hP
                  have hD : va_D A (wN ad cA (bkA a (fun m => pa (13 * k + m)) 13) (mixD Tm (a 0) d (pa (13 * k))) Ac gt lt ts nw st hs ht (nI kd) pa (upd ib k 1) ac) := hD
                  refine lv_iconst (v := 1) hx hb dN_back_142 (by decide) ?_
                  exact ct_ret1 hx hb hr rfl hlocks hP hK hD hS hbk rfl dN_back_143
                · exact absurd (nI_le (a := 13) (b := i) (by omega) (by omega)) c_6
              | succ n ih =>
                intro i ls H locs hni hP hD hS hl
                refine lv_iload hx hb dN_back_95 (lv_at hl 0 rfl) ?_
                refine lv_bipush (v := 13) hx hb dN_back_97 (by decide) ?_
                refine lv_icmp_ge (tgt := 135) hx hb dN_back_99 (by decide) (fun c_7 => ?_) (fun c_7 => ?_)
                · exact absurd ((nI_leI (a := 13) (b := i) (by decide) (by omega)).mp c_7) (by omega)
                · have hi : i < 13 := by omega
                  refine lv_aload_n hx hb dN_back_102 rfl (lv_at hl 2 rfl) ?_
                  refine va_get (D := (dC, dI)) (ci := 3) (v := .ref (ad 1)) (C := "MashEnzymesModel") (T := F_N) (N := 14) hx hb hts in_N hown hK hP 0 rfl rfl 0 (by decide) (hts _ tw_f_N_9) (fun _ h9 => h9) rfl dN_back_103 ?_
                  refine lv_iload hx hb dN_back_106 (lv_at hl 0 rfl) ?_
                  refine lv_aload_n hx hb dN_back_108 rfl (lv_at hl 2 rfl) ?_
                  refine va_get (D := (dC, dI)) (ci := 3) (v := .ref (ad 1)) (C := "MashEnzymesModel") (T := F_N) (N := 14) hx hb hts in_N hown hK hP 0 rfl rfl 0 (by decide) (hts _ tw_f_N_9) (fun _ h9 => h9) rfl dN_back_109 ?_
                  refine lv_iload hx hb dN_back_112 (lv_at hl 0 rfl) ?_
                  refine ct_dald (k := i) (v := a i) hx hb hK hP 1 0 rfl rfl (vp_in_nI (by omega) (by decide)) (nI_clamp (by omega)) (bkA_at a (fun m => pa (13 * k + m)) i) dN_back_114 ?_
                  refine lv_aload_n hx hb dN_back_115 rfl (lv_at hl 2 rfl) ?_
                  refine va_get (D := (dC, dI)) (ci := 3) (v := .ref (ad 4)) (C := "MashEnzymesModel") (T := F_N) (N := 14) hx hb hts in_N hown hK hP 0 rfl rfl 11 (by decide) (hts _ tw_f_N_20) (fun _ h9 => h9) rfl dN_back_116 ?_
                  refine lv_bipush (v := 13) hx hb dN_back_119 (by decide) ?_
                  refine lv_iload_n hx hb dN_back_121 rfl (lv_at hl 1 rfl) ?_
                  refine lv_imul hx hb dN_back_122 ?_
                  refine ct_topi (y := nI (13 * k)) (by rw [show (13 : Int32) = nI 13 from rfl, pk_mul]) ?_
                  refine lv_iload hx hb dN_back_123 (lv_at hl 0 rfl) ?_
                  refine lv_iadd hx hb dN_back_125 ?_
                  refine ct_topi (y := nI (13 * k + i)) (nI_add _ _) ?_
                  refine ct_dald (k := (13 * k + i)) (v := pa (13 * k + i)) hx hb hK hP 4 3 rfl rfl (vp_in_nI (by omega) (by decide)) (nI_clamp (by omega)) (rfl) dN_back_126 ?_
                  refine lv_dadd hx hb dN_back_127 (hok9.2 i hi) ?_
                  refine ct_dast (k := i) (w1 := (wN ad cA (bkA a (fun m => pa (13 * k + m)) (i + 1)) (mixD Tm (a 0) d (pa (13 * k))) Ac gt lt ts nw st hs ht (nI kd) pa ib ac)) hx hb hK hP hD hS 1 0 rfl rfl (vp_in_nI (by omega) (by decide)) (nI_clamp (by omega)) (by rw [← bkA_s]; rfl) dN_back_128 (fun H locs hP hD hS => ?_)
                  refine lv_iinc (v := (nI (i + 1))) (lv' := [(6, .int (nI (i + 1))), (1, .int (nI k)), (0, .ref (ad 0))]) hx hb dN_back_129 hl (k := 0) rfl (nI_1 i) (by decide) rfl (fun ls hl => ?_)
                  refine lv_goto (tgt := 95) hx hb dN_back_132 (by decide) ?_
                  exact ih (i + 1) ls H locs (by omega) hP hD hS (lv_sub hl [0, 1, 2] rfl)
            have key92 : ∀ (ls : Array Slot) (H : Heap) (locs : List Loc), va_P (dC, dI) cls (wN ad cA a (mixD Tm (a 0) d (pa (13 * k))) Ac gt lt ts nw st hs ht (nI kd) pa ib ac) H → va_D A (wN ad cA a (mixD Tm (a 0) d (pa (13 * k))) Ac gt lt ts nw st hs ht (nI kd) pa ib ac) → va_S A s.heap H locs → lv_has ls 7 [(1, .int (nI k)), (0, .ref (ad 0))] → W p l e ({ frames := 0, cells := 0, slots := 0, locals := 0 } : Room) s m ([.ref (ad 0), .int (nI k), .double d] : List Value).toArray below meth c H locs 0 0 (MQ below (ctQc dC dI (tN cA) (bkOK ib (nI kd) (nI k) d) 1 (wN ad cA (bkA a (fun m => pa (13 * k + m)) 13) (mixD Tm (a 0) d (pa (13 * k))) Ac gt lt ts nw st hs ht (nI kd) pa (upd ib k 1) ac) 0 (wN ad cA a Tm Ac gt lt ts nw st hs ht (nI kd) pa ib ac) A) ([.ref (ad 0), .int (nI k), .double d] : List Value).toArray s 0 0 A) (F0 m 92 ls []) := by
              intro ls H locs hP hD hS hl
              refine lv_iconst (v := 0) hx hb dN_back_92 (by decide) ?_
              refine ct_topi (y := nI 0) (rfl) ?_
              refine lv_istore (lv' := [(6, .int (nI 0)), (1, .int (nI k)), (0, .ref (ad 0))]) hx hb dN_back_93 hl (by decide) rfl (fun ls hl => ?_)
              have hP : va_P (dC, dI) cls (wN ad cA (bkA a (fun m => pa (13 * k + m)) 0) (mixD Tm (a 0) d (pa (13 * k))) Ac gt lt ts nw st hs ht (nI kd) pa ib ac) _ := (by rw [bkA_0]; exact hP)
              have hD : va_D A (wN ad cA (bkA a (fun m => pa (13 * k + m)) 0) (mixD Tm (a 0) d (pa (13 * k))) Ac gt lt ts nw st hs ht (nI kd) pa ib ac) := (by rw [bkA_0]; exact hD)
              exact key 13 0 ls _ _ rfl hP hD hS (lv_sub hl [0, 1, 2] rfl)
            refine lv_aload_n hx hb dN_back_37 rfl (lv_at hl 0 rfl) ?_
            refine va_get (D := (dC, dI)) (ci := 3) (v := .ref (ad 4)) (C := "MashEnzymesModel") (T := F_N) (N := 14) hx hb hts in_N hown hK hP 0 rfl rfl 11 (by decide) (hts _ tw_f_N_20) (fun _ h9 => h9) rfl dN_back_38 ?_
            refine lv_bipush (v := 13) hx hb dN_back_41 (by decide) ?_
            refine lv_iload_n hx hb dN_back_43 rfl (lv_at hl 1 rfl) ?_
            refine lv_imul hx hb dN_back_44 ?_
            refine ct_topi (y := nI (13 * k)) (by rw [show (13 : Int32) = nI 13 from rfl, pk_mul]) ?_
            refine ct_dald (k := (13 * k)) (v := pa (13 * k)) hx hb hK hP 4 3 rfl rfl (vp_in_nI (by omega) (by decide)) (nI_clamp (by omega)) (rfl) dN_back_45 ?_
            refine lv_dstore (lv' := [(4, .double (pa (13 * k))), (0, .ref (ad 0)), (1, .int (nI k)), (2, .double d)]) hx hb dN_back_46 hl (by decide) rfl (fun ls hl => ?_)
            refine lv_aload_n hx hb dN_back_48 rfl (lv_at hl 1 rfl) ?_
            refine va_get (D := (dC, dI)) (ci := 3) (v := .ref (ad 1)) (C := "MashEnzymesModel") (T := F_N) (N := 14) hx hb hts in_N hown hK hP 0 rfl rfl 0 (by decide) (hts _ tw_f_N_9) (fun _ h9 => h9) rfl dN_back_49 ?_
            refine lv_iconst (v := 0) hx hb dN_back_52 (by decide) ?_
            refine ct_dald (k := 0) (v := a 0) hx hb hK hP 1 0 rfl rfl (by unfold vp_in; decide) (rfl) (rfl) dN_back_53 ?_
            refine lv_dload hx hb dN_back_54 (lv_at hl 0 rfl) ?_
            refine lv_dadd hx hb dN_back_56 (hok9.1.1) ?_
            refine lv_dconst0 hx hb dN_back_57 ?_
            refine ct_topd (y := 0) rfl ?_
            refine lv_dcmp hx hb dN_back_58 ?_
            refine lv_if_le (tgt := 92) hx hb dN_back_59 (by decide) (fun c_8 => ?_) (fun c_8 => ?_)
            · have hT9 : mixD Tm (a 0) d (pa (13 * k)) = Tm := by unfold mixD; rw [if_neg ((cv_l_le _).mp c_8)]
              have hP : va_P (dC, dI) cls (wN ad cA a (mixD Tm (a 0) d (pa (13 * k))) Ac gt lt ts nw st hs ht (nI kd) pa ib ac) _ := (by rw [hT9]; exact hP)
              have hD : va_D A (wN ad cA a (mixD Tm (a 0) d (pa (13 * k))) Ac gt lt ts nw st hs ht (nI kd) pa ib ac) := (by rw [hT9]; exact hD)
              exact key92 ls _ _ hP hD hS (lv_sub hl [2, 1] rfl)
            · have hg : FP.dcmp (FP.dadd (a 0) (pa (13 * k))) 0 = some .gt := Classical.not_not.mp fun h => c_8 ((cv_l_le _).mpr h)
              refine lv_aload_n hx hb dN_back_62 rfl (lv_at hl 1 rfl) ?_
              refine lv_aload_n hx hb dN_back_63 rfl (lv_at hl 1 rfl) ?_
              refine va_get (D := (dC, dI)) (ci := 3) (v := .double Tm) (C := "MashEnzymesModel") (T := F_N) (N := 14) hx hb hts in_N hown hK hP 0 rfl rfl 1 (by decide) (hts _ tw_f_N_62) (fun _ h9 => h9) rfl dN_back_64 ?_
              refine lv_aload_n hx hb dN_back_67 rfl (lv_at hl 1 rfl) ?_
              refine va_get (D := (dC, dI)) (ci := 3) (v := .ref (ad 1)) (C := "MashEnzymesModel") (T := F_N) (N := 14) hx hb hts in_N hown hK hP 0 rfl rfl 0 (by decide) (hts _ tw_f_N_9) (fun _ h9 => h9) rfl dN_back_68 ?_
              refine lv_iconst (v := 0) hx hb dN_back_71 (by decide) ?_
              refine ct_dald (k := 0) (v := a 0) hx hb hK hP 1 0 rfl rfl (by unfold vp_in; decide) (rfl) (rfl) dN_back_72 ?_
              refine lv_dmul hx hb dN_back_73 ((hok9.1.2 hg).1) ?_
              refine lv_dload_n hx hb dN_back_74 rfl (lv_at hl 3 rfl) ?_
              refine lv_dload hx hb dN_back_75 (lv_at hl 0 rfl) ?_
              refine lv_dmul hx hb dN_back_77 ((hok9.1.2 hg).2.1) ?_
              refine lv_dadd hx hb dN_back_78 ((hok9.1.2 hg).2.2.1) ?_
              refine lv_aload_n hx hb dN_back_79 rfl (lv_at hl 1 rfl) ?_
              refine va_get (D := (dC, dI)) (ci := 3) (v := .ref (ad 1)) (C := "MashEnzymesModel") (T := F_N) (N := 14) hx hb hts in_N hown hK hP 0 rfl rfl 0 (by decide) (hts _ tw_f_N_9) (fun _ h9 => h9) rfl dN_back_80 ?_
              refine lv_iconst (v := 0) hx hb dN_back_83 (by decide) ?_
              refine ct_dald (k := 0) (v := a 0) hx hb hK hP 1 0 rfl rfl (by unfold vp_in; decide) (rfl) (rfl) dN_back_84 ?_
              refine lv_dload hx hb dN_back_85 (lv_at hl 0 rfl) ?_
              refine lv_dadd hx hb dN_back_87 (hok9.1.1) ?_
              refine lv_ddiv hx hb dN_back_88 ((hok9.1.2 hg).2.2.2) ?_
              refine ct_topd (y := mixD Tm (a 0) d (pa (13 * k))) (by unfold mixD; rw [if_pos hg]) ?_
              refine va_put (D := (dC, dI)) (ci := 3) (v := .double (mixD Tm (a 0) d (pa (13 * k)))) (ty := .double) (C := "MashEnzymesModel") (T := F_N) (N := 14) hx hb hts in_N t_N t_N_ok n_N hown hK hP hD hS 0 rfl rfl 1 (by decide) (hts _ tw_f_N_62) (fun _ h9 => h9) rfl (by decide +kernel) rfl rfl (Nat.le_of_ble_eq_true rfl) dN_back_89 (fun H locs hP hD hS => ?_)
              have hP : va_P (dC, dI) cls (wN ad cA a (mixD Tm (a 0) d (pa (13 * k))) Ac gt lt ts nw st hs ht (nI kd) pa ib ac) H := hP
              have hD : va_D A (wN ad cA a (mixD Tm (a 0) d (pa (13 * k))) Ac gt lt ts nw st hs ht (nI kd) pa ib ac) := hD
              exact key92 ls _ _ hP hD hS (lv_sub hl [2, 1] rfl)
          · refine lv_iconst (v := 0) hx hb dN_back_35 (by decide) ?_
            exact ct_ret0 hx hb hr rfl hlocks hP hK hD hS (fun h => (htp.mp h.2.2.2).2 (Classical.not_not.mp fun h9 => c_5 ((cv_l_le _).mpr h9))) rfl dN_back_36

