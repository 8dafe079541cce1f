section CT4
variable {p : Program} {l : Launch} {e : Env} {R : Room} {s : State} {m : MethodId} {args : Array Value} {below : List Frame} {meth : Method} {c : Code} {H : Heap} {locs : List Loc} {cells slots : Nat} {Q : State → Prop} {pc : Nat} {ls : Array Slot} {rest : List Value}
theorem ct_topv {x y : Value} (h : x = y) (k : W p l e R s m args below meth c H locs cells slots Q (F0 m pc ls (y :: rest))) : W p l e R s m args below meth c H locs cells slots Q (F0 m pc ls (x :: rest)) := by subst h; exact k
end CT4
theorem gr2_at (kg st : UInt64) (k : Nat) (a : Nat → UInt64) (i : Nat) : gr2 kg st k a (9 + i) = a (9 + i) := by
  unfold gr2 vf_upd
  rw [if_neg (by omega), if_neg (by omega)]
/-- a share may be taken: what is answered if none is -/
noncomputable def tkR (sh : UInt64) (gt lt : Int32) : Int32 := @ite Int32 (tkS sh gt lt) (Classical.propDecidable _) (-2) (-1)
theorem tkR_1 {sh : UInt64} {gt lt : Int32} (h : tkS sh gt lt) : (-2) = tkR sh gt lt := (if_pos h).symm
theorem tkR_0 {sh : UInt64} {gt lt : Int32} (h : ¬ tkS sh gt lt) : (-1) = tkR sh gt lt := (if_neg h).symm
set_option maxHeartbeats 4000000 in
set_option maxRecDepth 100000 in
/-- grain -/
theorem cM_grain (l : Launch) (dC : Nat → ClassId) (dI : Nat → Nat → Nat) (tt : Nat → Nat) (sz : Nat) (ad : Nat → Nat) (cA : Nat → ClassId) (a : Nat → UInt64) (dv : Nat → Nat → UInt64) (ib : Nat → Int32) (ac : Nat → UInt64) (hs : Nat → Int32) (ht : Nat → UInt64) (hc hn : Int32) (rv : Nat → UInt64) (ra : UInt64) (dc nw : Int32) (Tm Ac ts : UInt64) (gt lt : Int32) (kg st : UInt64) (kind : Int32) (hnk : nNo kg) (hns : nNo st) (hok : grOK kg st kind → okG kg st kind.toNatClampNeg a ts) : Ct l dC dI tt yM_grain bM_grain 10 (some .boolean) ({ frames := 0, cells := 0, slots := 0, locals := 0 }) (tM cA) [.ref (ad 0), .double kg, .double st, .int kind] (wM ad cA a dv ib ac hs ht hc hn rv ra dc nw Tm Ac ts gt lt) sz (fun A => ctQc dC dI (tM cA) (grOK kg st kind) 1 (wM ad cA (grA kg st kind.toNatClampNeg a) dv ib ac hs ht hc hn rv ra dc nw Tm Ac (FP.dadd ts (FP.dmul kg st)) 1 lt) 0 (wM ad cA a dv ib ac hs ht hc hn rv ra dc nw Tm Ac ts gt lt) A) := by
  refine ct_of (by decide) (Nat.le_of_ble_eq_true rfl) ?_
  intro p e s m below meth c A ls hx hb hr hts hown hml hlocks hnm hA hS hP hK hD hT hl
  have hl : lv_has ls 10 [(0, .ref (ad 0)), (1, .double kg), (3, .double st), (5, .int kind)] := hl
  refine lv_dload_n hx hb dM_grain_0 rfl (lv_at hl 1 rfl) ?_
  refine lv_dconst0 hx hb dM_grain_1 ?_
  refine ct_topd (y := 0) rfl ?_
  refine lv_dcmp hx hb dM_grain_2 ?_
  refine lv_if_le (tgt := 30) hx hb dM_grain_3 (by decide) (fun c_1 => ?_) (fun c_1 => ?_)
  · refine lv_iconst (v := 0) hx hb dM_grain_30 (by decide) ?_
    refine lv_istore (lv' := [(6, .int 0), (0, .ref (ad 0)), (1, .double kg), (3, .double st), (5, .int kind)]) hx hb dM_grain_31 hl (by decide) rfl (fun ls hl => ?_)
    refine lv_iload hx hb dM_grain_33 (lv_at hl 0 rfl) ?_
    refine lv_if_eq (tgt := 49) hx hb dM_grain_35 (by decide) (fun c_2 => ?_) (fun c_2 => ?_)
    · refine lv_iconst (v := 0) hx hb dM_grain_49 (by decide) ?_
      exact ct_ret0 hx hb hr rfl hlocks hP hK hD hS (fun h => (cv_l_le _).mp c_1 h.1) rfl dM_grain_50
    · exact absurd rfl c_2
  · have h_kg0 := (Classical.not_not.mp fun h => c_1 ((cv_l_le _).mpr h) : FP.dcmp kg 0 = some .gt)
    refine lv_dload_n hx hb dM_grain_6 rfl (lv_at hl 1 rfl) ?_
    refine lv_ldc2d hx hb hown (hts _ tw_d_M_39) dM_grain_7 ?_
    refine lv_dcmp hx hb dM_grain_10 ?_
    refine lv_if_gt (tgt := 30) hx hb dM_grain_11 (by decide) (fun c_3 => ?_) (fun c_3 => ?_)
    · refine lv_iconst (v := 0) hx hb dM_grain_30 (by decide) ?_
      refine lv_istore (lv' := [(6, .int 0), (0, .ref (ad 0)), (1, .double kg), (3, .double st), (5, .int kind)]) hx hb dM_grain_31 hl (by decide) rfl (fun ls hl => ?_)
      refine lv_iload hx hb dM_grain_33 (lv_at hl 0 rfl) ?_
      refine lv_if_eq (tgt := 49) hx hb dM_grain_35 (by decide) (fun c_4 => ?_) (fun c_4 => ?_)
      · refine lv_iconst (v := 0) hx hb dM_grain_49 (by decide) ?_
        exact ct_ret0 hx hb hr rfl hlocks hP hK hD hS (fun h => h.2.1 ((cvn_g (hnk _ (by decide))).mp c_3)) rfl dM_grain_50
      · exact absurd rfl c_4
    · have h_kg1 := (fun h => c_3 ((cvn_g (hnk _ (by decide))).mpr h) : ¬ FP.dcmp kg 4652007308841189376 = some .gt)
      refine lv_dload_n hx hb dM_grain_14 rfl (lv_at hl 2 rfl) ?_
      refine lv_dconst0 hx hb dM_grain_15 ?_
      refine ct_topd (y := 0) rfl ?_
      refine lv_dcmp hx hb dM_grain_16 ?_
      refine lv_if_lt (tgt := 30) hx hb dM_grain_17 (by decide) (fun c_5 => ?_) (fun c_5 => ?_)
      · refine lv_iconst (v := 0) hx hb dM_grain_30 (by decide) ?_
        refine lv_istore (lv' := [(6, .int 0), (0, .ref (ad 0)), (1, .double kg), (3, .double st), (5, .int kind)]) hx hb dM_grain_31 hl (by decide) rfl (fun ls hl => ?_)
        refine lv_iload hx hb dM_grain_33 (lv_at hl 0 rfl) ?_
        refine lv_if_eq (tgt := 49) hx hb dM_grain_35 (by decide) (fun c_6 => ?_) (fun c_6 => ?_)
        · refine lv_iconst (v := 0) hx hb dM_grain_49 (by decide) ?_
          exact ct_ret0 hx hb hr rfl hlocks hP hK hD hS (fun h => h.2.2.1 ((cvn_l (hns _ (by decide))).mp c_5)) rfl dM_grain_50
        · exact absurd rfl c_6
      · have h_st0 := (fun h => c_5 ((cvn_l (hns _ (by decide))).mpr h) : ¬ FP.dcmp st 0 = some .lt)
        refine lv_dload_n hx hb dM_grain_20 rfl (lv_at hl 2 rfl) ?_
        refine lv_dconst1 hx hb dM_grain_21 ?_
        refine ct_topd (y := 4607182418800017408) rfl ?_
        refine lv_dcmp hx hb dM_grain_22 ?_
        refine lv_if_gt (tgt := 30) hx hb dM_grain_23 (by decide) (fun c_7 => ?_) (fun c_7 => ?_)
        · refine lv_iconst (v := 0) hx hb dM_grain_30 (by decide) ?_
          refine lv_istore (lv' := [(6, .int 0), (0, .ref (ad 0)), (1, .double kg), (3, .double st), (5, .int kind)]) hx hb dM_grain_31 hl (by decide) rfl (fun ls hl => ?_)
          refine lv_iload hx hb dM_grain_33 (lv_at hl 0 rfl) ?_
          refine lv_if_eq (tgt := 49) hx hb dM_grain_35 (by decide) (fun c_8 => ?_) (fun c_8 => ?_)
          · refine lv_iconst (v := 0) hx hb dM_grain_49 (by decide) ?_
            exact ct_ret0 hx hb hr rfl hlocks hP hK hD hS (fun h => h.2.2.2.1 ((cvn_g (hns _ (by decide))).mp c_7)) rfl dM_grain_50
          · exact absurd rfl c_8
        · have h_st1 := (fun h => c_7 ((cvn_g (hns _ (by decide))).mpr h) : ¬ FP.dcmp st 4607182418800017408 = some .gt)
          refine lv_iconst (v := 1) hx hb dM_grain_26 (by decide) ?_
          refine lv_goto (tgt := 31) hx hb dM_grain_27 (by decide) ?_
          refine lv_istore (lv' := [(6, .int 1), (0, .ref (ad 0)), (1, .double kg), (3, .double st), (5, .int kind)]) hx hb dM_grain_31 hl (by decide) rfl (fun ls hl => ?_)
          refine lv_iload hx hb dM_grain_33 (lv_at hl 0 rfl) ?_
          refine lv_if_eq (tgt := 49) hx hb dM_grain_35 (by decide) (fun c_9 => ?_) (fun c_9 => ?_)
          · exact (absurd c_9 (by decide))
          · refine lv_iload hx hb dM_grain_38 (lv_at hl 4 rfl) ?_
            refine lv_if_lt (tgt := 49) hx hb dM_grain_40 (by decide) (fun c_10 => ?_) (fun c_10 => ?_)
            · refine lv_iconst (v := 0) hx hb dM_grain_49 (by decide) ?_
              exact ct_ret0 hx hb hr rfl hlocks hP hK hD hS (fun h => Int32.not_lt.mpr h.2.2.2.2.1 c_10) rfl dM_grain_50
            · have h_k0 := (c_10 : ¬ kind < 0)
              refine lv_iload hx hb dM_grain_43 (lv_at hl 4 rfl) ?_
              refine lv_iconst (v := 3) hx hb dM_grain_45 (by decide) ?_
              refine lv_icmp_lt (tgt := 51) hx hb dM_grain_46 (by decide) (fun c_11 => ?_) (fun c_11 => ?_)
              · have h_k1 := (c_11 : kind < 3)
                have hz : grOK kg st kind := ⟨h_kg0, h_kg1, h_st0, h_st1, Int32.not_lt.mp h_k0, h_k1⟩
                obtain ⟨k, hk, rfl⟩ := nI_of (x := kind) h_k0
                have hk3 : k < 3 := (nI_ltI hk (by decide)).mp h_k1
                have hok9 := hok hz
                rw [nI_clamp hk] at hok9
                rw [nI_clamp hk]
                refine lv_aload_n hx hb dM_grain_51 rfl (lv_at hl 1 rfl) ?_
                refine va_get (D := (dC, dI)) (ci := 0) (v := .ref (ad 1)) (C := "MashEnzymes") (T := F_M) (N := 13) hx hb hts in_M hown hK hP 0 rfl rfl 0 (by decide) (hts _ tw_f_M_9) (fun _ h9 => h9) rfl dM_grain_52 ?_
                refine lv_iconst (v := 1) hx hb dM_grain_55 (by decide) ?_
                refine lv_aload_n hx hb dM_grain_56 rfl (lv_at hl 1 rfl) ?_
                refine va_get (D := (dC, dI)) (ci := 0) (v := .ref (ad 1)) (C := "MashEnzymes") (T := F_M) (N := 13) hx hb hts in_M hown hK hP 0 rfl rfl 0 (by decide) (hts _ tw_f_M_9) (fun _ h9 => h9) rfl dM_grain_57 ?_
                refine lv_iconst (v := 1) hx hb dM_grain_60 (by decide) ?_
                refine ct_dald (k := 1) (v := a 1) hx hb hK hP 1 0 rfl rfl (by unfold vp_in; decide) (rfl) (rfl) dM_grain_61 ?_
                refine lv_dload_n hx hb dM_grain_62 rfl (lv_at hl 2 rfl) ?_
                refine lv_dload_n hx hb dM_grain_63 rfl (lv_at hl 3 rfl) ?_
                refine lv_dmul hx hb dM_grain_64 (hok9.1) ?_
                refine lv_dadd hx hb dM_grain_65 (hok9.2.1) ?_
                refine ct_dast (k := 1) (w1 := (wM ad cA (vf_upd a 1 (FP.dadd (a 1) (FP.dmul kg st))) dv ib ac hs ht hc hn rv ra dc nw Tm Ac ts gt lt)) hx hb hK hP hD hS 1 0 rfl rfl (by unfold vp_in; decide) (rfl) (rfl) dM_grain_66 (fun H locs hP hD hS => ?_)
                refine lv_aload_n hx hb dM_grain_67 rfl (lv_at hl 1 rfl) ?_
                refine lv_aload_n hx hb dM_grain_68 rfl (lv_at hl 1 rfl) ?_
                refine va_get (D := (dC, dI)) (ci := 0) (v := .double ts) (C := "MashEnzymes") (T := F_M) (N := 13) hx hb hts in_M hown hK hP 0 rfl rfl 10 (by decide) (hts _ tw_f_M_41) (fun _ h9 => h9) rfl dM_grain_69 ?_
                refine lv_dload_n hx hb dM_grain_72 rfl (lv_at hl 2 rfl) ?_
                refine lv_dload_n hx hb dM_grain_73 rfl (lv_at hl 3 rfl) ?_
                refine lv_dmul hx hb dM_grain_74 (hok9.1) ?_
                refine lv_dadd hx hb dM_grain_75 (hok9.2.2.1) ?_
                refine va_put (D := (dC, dI)) (ci := 0) (v := .double (FP.dadd ts (FP.dmul kg st))) (ty := .double) (C := "MashEnzymes") (T := F_M) (N := 13) hx hb hts in_M t_M t_M_ok n_M hown hK hP hD hS 0 rfl rfl 10 (by decide) (hts _ tw_f_M_41) (fun _ h9 => h9) rfl (by decide +kernel) rfl rfl (Nat.le_of_ble_eq_true rfl) dM_grain_76 (fun H locs hP hD hS => ?_)
                have hP : va_P (dC, dI) cls (wM ad cA (vf_upd a 1 (FP.dadd (a 1) (FP.dmul kg st))) dv ib ac hs ht hc hn rv ra dc nw Tm Ac (FP.dadd ts (FP.dmul kg st)) gt lt) H := hP
                have hD : va_D A (wM ad cA (vf_upd a 1 (FP.dadd (a 1) (FP.dmul kg st))) dv ib ac hs ht hc hn rv ra dc nw Tm Ac (FP.dadd ts (FP.dmul kg st)) gt lt) := hD
                refine lv_aload_n hx hb dM_grain_79 rfl (lv_at hl 1 rfl) ?_
                refine va_get (D := (dC, dI)) (ci := 0) (v := .ref (ad 1)) (C := "MashEnzymes") (T := F_M) (N := 13) hx hb hts in_M hown hK hP 0 rfl rfl 0 (by decide) (hts _ tw_f_M_9) (fun _ h9 => h9) rfl dM_grain_80 ?_
                refine lv_bipush (v := 8) hx hb dM_grain_83 (by decide) ?_
                refine lv_aload_n hx hb dM_grain_85 rfl (lv_at hl 1 rfl) ?_
                refine va_get (D := (dC, dI)) (ci := 0) (v := .ref (ad 1)) (C := "MashEnzymes") (T := F_M) (N := 13) hx hb hts in_M hown hK hP 0 rfl rfl 0 (by decide) (hts _ tw_f_M_9) (fun _ h9 => h9) rfl dM_grain_86 ?_
                refine lv_bipush (v := 8) hx hb dM_grain_89 (by decide) ?_
                refine ct_dald (k := 8) (v := a 8) hx hb hK hP 1 0 rfl rfl (by unfold vp_in; decide) (rfl) (rfl) dM_grain_91 ?_
                refine lv_dload_n hx hb dM_grain_92 rfl (lv_at hl 2 rfl) ?_
                refine va_gets hx hb hT.1.1 hS hown (hts _ tw_f_M_45) (fun _ h9 => h9) dM_grain_93 ?_
                refine lv_iload hx hb dM_grain_96 (lv_at hl 4 rfl) ?_
                refine ct_tab (k := k) (v := nI (tb_GP k)) hx hb hT.1 hS (vp_in_nI (by omega) (by decide)) (nI_clamp (by omega)) (rfl) dM_grain_98 ?_
                refine lv_i2d hx hb dM_grain_99 ?_
                refine lv_ldc2d hx hb hown (hts _ tw_d_M_49) dM_grain_100 ?_
                refine lv_ddiv hx hb dM_grain_103 ((ft_isP_P (gp_P k hk3)).n) ?_
                refine ct_topd (y := gpD k) (rfl) ?_
                refine lv_dmul hx hb dM_grain_104 (hok9.2.2.2.1) ?_
                refine lv_dadd hx hb dM_grain_105 (hok9.2.2.2.2.1) ?_
                refine ct_dast (k := 8) (w1 := (wM ad cA (gr2 kg st k a) dv ib ac hs ht hc hn rv ra dc nw Tm Ac (FP.dadd ts (FP.dmul kg st)) gt lt)) hx hb hK hP hD hS 1 0 rfl rfl (by unfold vp_in; decide) (rfl) (rfl) dM_grain_106 (fun H locs hP hD hS => ?_)
                refine lv_iconst (v := 0) hx hb dM_grain_107 (by decide) ?_
                refine ct_topi (y := nI 0) (rfl) ?_
                refine lv_istore (lv' := [(7, .int (nI 0)), (6, .int 1), (0, .ref (ad 0)), (1, .double kg), (3, .double st), (5, .int (nI k))]) hx hb dM_grain_108 hl (by decide) rfl (fun ls hl => ?_)
                have key : ∀ (n i : Nat) (ls : Array Slot) (H : Heap) (locs : List Loc), n + i = 4 → va_P (dC, dI) cls (wM ad cA (grE kg k i (gr2 kg st k a)) dv ib ac hs ht hc hn rv ra dc nw Tm Ac (FP.dadd ts (FP.dmul kg st)) gt lt) H → va_D A (wM ad cA (grE kg k i (gr2 kg st k a)) dv ib ac hs ht hc hn rv ra dc nw Tm Ac (FP.dadd ts (FP.dmul kg st)) gt lt) → va_S A s.heap H locs → lv_has ls 10 [(7, .int (nI i)), (5, .int (nI k)), (1, .double kg), (0, .ref (ad 0))] → W p l e ({ frames := 0, cells := 0, slots := 0, locals := 0 } : Room) s m ([.ref (ad 0), .double kg, .double st, .int (nI k)] : List Value).toArray below meth c H locs 0 0 (MQ below (ctQc dC dI (tM cA) (grOK kg st (nI k)) 1 (wM ad cA (grA kg st k a) dv ib ac hs ht hc hn rv ra dc nw Tm Ac (FP.dadd ts (FP.dmul kg st)) 1 lt) 0 (wM ad cA a dv ib ac hs ht hc hn rv ra dc nw Tm Ac ts gt lt) A) ([.ref (ad 0), .double kg, .double st, .int (nI k)] : List Value).toArray s 0 0 A) (F0 m 110 ls []) := by
                  intro n
                  induction n with
                  | zero =>
                    intro i ls H locs hni hP hD hS hl
                    refine lv_iload hx hb dM_grain_110 (lv_at hl 0 rfl) ?_
                    refine lv_iconst (v := 4) hx hb dM_grain_112 (by decide) ?_
                    refine lv_icmp_ge (tgt := 165) hx hb dM_grain_113 (by decide) (fun c_12 => ?_) (fun c_12 => ?_)
                    · have hi : i = 4 := by omega
                      subst hi
                      refine lv_aload_n hx hb dM_grain_165 rfl (lv_at hl 3 rfl) ?_
                      refine lv_iconst (v := 1) hx hb dM_grain_166 (by decide) ?_
                      refine va_put (D := (dC, dI)) (ci := 0) (v := .int 1) (ty := .boolean) (C := "MashEnzymes") (T := F_M) (N := 13) hx hb hts in_M t_M t_M_ok n_M hown hK hP hD hS 0 rfl rfl 11 (by decide) (hts _ tw_f_M_56) (fun _ h9 => h9) rfl (by decide +kernel) rfl rfl (Nat.le_of_ble_eq_true rfl) dM_grain_167 (fun H locs hP hD hS => ?_)
                      have hP : va_P (dC, dI) cls (wM ad cA (grE kg k 4 (gr2 kg st k a)) dv ib ac hs ht hc hn rv ra dc nw Tm Ac (FP.dadd ts (FP.dmul kg st)) 1 lt) H := hP
                      have hD : va_D A (wM ad cA (grE kg k 4 (gr2 kg st k a)) dv ib ac hs ht hc hn rv ra dc nw Tm Ac (FP.dadd ts (FP.dmul kg st)) 1 lt) := hD
                      refine lv_iconst (v := 1) hx hb dM_grain_170 (by decide) ?_
                      exact ct_ret1 hx hb hr rfl hlocks hP hK hD hS hz rfl dM_grain_171
                    · exact absurd (nI_le (a := 4) (b := i) (by omega) (by omega)) c_12
                  | succ n ih =>
                    intro i ls H locs hni hP hD hS hl
                    refine lv_iload hx hb dM_grain_110 (lv_at hl 0 rfl) ?_
                    refine lv_iconst (v := 4) hx hb dM_grain_112 (by decide) ?_
                    refine lv_icmp_ge (tgt := 165) hx hb dM_grain_113 (by decide) (fun c_13 => ?_) (fun c_13 => ?_)
                    · exact absurd ((nI_leI (a := 4) (b := i) (by decide) (by omega)).mp c_13) (by omega)
                    · have hi : i < 4 := by omega
                      refine va_gets hx hb hT.2.1.1 hS hown (hts _ tw_f_M_51) (fun _ h9 => h9) dM_grain_116 ?_
                      refine lv_iload hx hb dM_grain_119 (lv_at hl 1 rfl) ?_
                      refine lv_iconst (v := 4) hx hb dM_grain_121 (by decide) ?_
                      refine lv_imul hx hb dM_grain_122 ?_
                      refine ct_topi (y := nI (k * 4)) (by rw [show (4 : Int32) = nI 4 from rfl, pk_mul]) ?_
                      refine lv_iload hx hb dM_grain_123 (lv_at hl 0 rfl) ?_
                      refine lv_iadd hx hb dM_grain_125 ?_
                      refine ct_topi (y := nI (k * 4 + i)) (nI_add _ _) ?_
                      refine ct_tab (k := (k * 4 + i)) (v := nI (tb_GE (k * 4 + i))) hx hb hT.2.1 hS (vp_in_nI (by omega) (by decide)) (nI_clamp (by omega)) (rfl) dM_grain_126 ?_
                      refine lv_i2d hx hb dM_grain_127 ?_
                      refine lv_ldc2d hx hb hown (hts _ tw_d_M_54) dM_grain_128 ?_
                      refine lv_ddiv hx hb dM_grain_131 ((ft_isP_P (ge_P k hk3 i hi)).n) ?_
                      refine ct_topd (y := geD k i) (rfl) ?_
                      refine lv_dstore (lv' := [(8, .double (geD k i)), (7, .int (nI i)), (5, .int (nI k)), (1, .double kg), (0, .ref (ad 0))]) hx hb dM_grain_132 hl (by decide) rfl (fun ls hl => ?_)
                      refine lv_aload_n hx hb dM_grain_134 rfl (lv_at hl 4 rfl) ?_
                      refine va_get (D := (dC, dI)) (ci := 0) (v := .ref (ad 1)) (C := "MashEnzymes") (T := F_M) (N := 13) hx hb hts in_M hown hK hP 0 rfl rfl 0 (by decide) (hts _ tw_f_M_9) (fun _ h9 => h9) rfl dM_grain_135 ?_
                      refine lv_bipush (v := 9) hx hb dM_grain_138 (by decide) ?_
                      refine lv_iload hx hb dM_grain_140 (lv_at hl 1 rfl) ?_
                      refine lv_iadd hx hb dM_grain_142 ?_
                      refine ct_topi (y := nI (9 + i)) (by rw [show (9 : Int32) = nI 9 from rfl, nI_add]) ?_
                      refine lv_aload_n hx hb dM_grain_143 rfl (lv_at hl 4 rfl) ?_
                      refine va_get (D := (dC, dI)) (ci := 0) (v := .ref (ad 1)) (C := "MashEnzymes") (T := F_M) (N := 13) hx hb hts in_M hown hK hP 0 rfl rfl 0 (by decide) (hts _ tw_f_M_9) (fun _ h9 => h9) rfl dM_grain_144 ?_
                      refine lv_bipush (v := 9) hx hb dM_grain_147 (by decide) ?_
                      refine lv_iload hx hb dM_grain_149 (lv_at hl 1 rfl) ?_
                      refine lv_iadd hx hb dM_grain_151 ?_
                      refine ct_topi (y := nI (9 + i)) (by rw [show (9 : Int32) = nI 9 from rfl, nI_add]) ?_
                      refine ct_dald (k := (9 + i)) (v := a (9 + i)) hx hb hK hP 1 0 rfl rfl (vp_in_nI (by omega) (by decide)) (nI_clamp (by omega)) (by rw [grE_at, gr2_at]) dM_grain_152 ?_
                      refine lv_dload_n hx hb dM_grain_153 rfl (lv_at hl 3 rfl) ?_
                      refine lv_dload hx hb dM_grain_154 (lv_at hl 0 rfl) ?_
                      refine lv_dmul hx hb dM_grain_156 ((hok9.2.2.2.2.2 i hi).1) ?_
                      refine lv_dadd hx hb dM_grain_157 ((hok9.2.2.2.2.2 i hi).2) ?_
                      refine ct_dast (k := (9 + i)) (w1 := (wM ad cA (grE kg k (i + 1) (gr2 kg st k a)) dv ib ac hs ht hc hn rv ra dc nw Tm Ac (FP.dadd ts (FP.dmul kg st)) gt lt)) hx hb hK hP hD hS 1 0 rfl rfl (vp_in_nI (by omega) (by decide)) (nI_clamp (by omega)) (by rw [← grE_s, gr2_at]; rfl) dM_grain_158 (fun H locs hP hD hS => ?_)
                      refine lv_iinc (v := (nI (i + 1))) (lv' := [(7, .int (nI (i + 1))), (8, .double (geD k i)), (5, .int (nI k)), (1, .double kg), (0, .ref (ad 0))]) hx hb dM_grain_159 hl (k := 1) rfl (nI_1 i) (by decide) rfl (fun ls hl => ?_)
                      refine lv_goto (tgt := 110) hx hb dM_grain_162 (by decide) ?_
                      exact ih (i + 1) ls H locs (by omega) hP hD hS (lv_sub hl [0, 2, 3, 4] rfl)
                rw [← grE_0 kg k (gr2 kg st k a)] at hP hD
                exact key 4 0 ls _ _ rfl hP hD hS (lv_sub hl [0, 5, 3, 2] rfl)
              · refine lv_iconst (v := 0) hx hb dM_grain_49 (by decide) ?_
                exact ct_ret0 hx hb hr rfl hlocks hP hK hD hS (fun h => c_11 h.2.2.2.2.2) rfl dM_grain_50

set_option maxHeartbeats 4000000 in
set_option maxRecDepth 100000 in
/-- take -/
theorem cM_take (l : Launch) (dC : Nat → ClassId) (dI : Nat → Nat → Nat) (tt : Nat → Nat) (sz : Nat) (ad : Nat → Nat) (cA : Nat → ClassId) (a : Nat → UInt64) (dv : Nat → Nat → UInt64) (ib : Nat → Int32) (ac : Nat → UInt64) (hs : Nat → Int32) (ht : Nat → UInt64) (hc hn : Int32) (rv : Nat → UInt64) (ra : UInt64) (k : Nat) (nw : Int32) (Tm Ac ts : UInt64) (gt lt : Int32) (sh : UInt64) (hk9 : k ≤ 8) (hok : tkS sh gt lt → ∀ i, i < 13 → vf_n64 (FP.dmul (a i) sh) ∧ vf_n64 (FP.dsub (a i) (FP.dmul (a i) sh))) : Ct l dC dI tt yM_take bM_take 6 (some .int) ({ frames := 1, cells := 0, slots := 0, locals := 20 }) (tM cA) [.ref (ad 0), .double sh] (wM ad cA a dv ib ac hs ht hc hn rv ra (nI k) nw Tm Ac ts gt lt) sz (fun A => ctQc dC dI (tM cA) (tkS sh gt lt ∧ k < 8) (nI k) (wM ad cA (tkA a sh 13) (va_up dv k (tkD a sh 13 (dv k))) ib ac hs ht hc hn rv ra (nI (k + 1)) nw Tm Ac ts gt lt) (tkR sh gt lt) (wM ad cA a dv ib ac hs ht hc hn rv ra (nI k) nw Tm Ac ts gt lt) A) := by
  refine ct_of (by decide) (Nat.le_of_ble_eq_true rfl) ?_
  intro p e s m below meth c A ls hx hb hr hts hown hml hlocks hnm hA hS hP hK hD hT hl
  have hl : lv_has ls 6 [(0, .ref (ad 0)), (1, .double sh)] := hl
  refine lv_dload_n hx hb dM_take_0 rfl (lv_at hl 1 rfl) ?_
  refine lv_dconst0 hx hb dM_take_1 ?_
  refine ct_topd (y := 0) rfl ?_
  refine lv_dcmp hx hb dM_take_2 ?_
  refine lv_if_le (tgt := 16) hx hb dM_take_3 (by decide) (fun c_1 => ?_) (fun c_1 => ?_)
  · refine lv_iconst (v := 0) hx hb dM_take_16 (by decide) ?_
    refine lv_istore_n (lv' := [(3, .int 0), (0, .ref (ad 0)), (1, .double sh)]) hx hb dM_take_17 rfl hl (by decide) rfl (fun ls hl => ?_)
    refine lv_iload_n hx hb dM_take_18 rfl (lv_at hl 0 rfl) ?_
    refine lv_if_eq (tgt := 29) hx hb dM_take_19 (by decide) (fun c_2 => ?_) (fun c_2 => ?_)
    · refine lv_iconst (v := (-1)) hx hb dM_take_29 (by decide) ?_
      exact ct_ret0 hx hb hr rfl hlocks hP hK hD hS (fun h => (fun h => (cv_l_le _).mp c_1 h.1) h.1) (tkR_0 (fun h => (cv_l_le _).mp c_1 h.1)) dM_take_30
    · exact absurd rfl c_2
  · have h_sh0 := (Classical.not_not.mp fun h => c_1 ((cv_l_le _).mpr h) : FP.dcmp sh 0 = some .gt)
    refine lv_dload_n hx hb dM_take_6 rfl (lv_at hl 1 rfl) ?_
    refine lv_dconst1 hx hb dM_take_7 ?_
    refine ct_topd (y := 4607182418800017408) rfl ?_
    refine lv_dcmp hx hb dM_take_8 ?_
    refine lv_if_ge (tgt := 16) hx hb dM_take_9 (by decide) (fun c_3 => ?_) (fun c_3 => ?_)
    · refine lv_iconst (v := 0) hx hb dM_take_16 (by decide) ?_
      refine lv_istore_n (lv' := [(3, .int 0), (0, .ref (ad 0)), (1, .double sh)]) hx hb dM_take_17 rfl hl (by decide) rfl (fun ls hl => ?_)
      refine lv_iload_n hx hb dM_take_18 rfl (lv_at hl 0 rfl) ?_
      refine lv_if_eq (tgt := 29) hx hb dM_take_19 (by decide) (fun c_4 => ?_) (fun c_4 => ?_)
      · refine lv_iconst (v := (-1)) hx hb dM_take_29 (by decide) ?_
        exact ct_ret0 hx hb hr rfl hlocks hP hK hD hS (fun h => (fun h => (cv_g_ge _).mp c_3 h.2.1) h.1) (tkR_0 (fun h => (cv_g_ge _).mp c_3 h.2.1)) dM_take_30
      · exact absurd rfl c_4
    · have h_sh1 := (Classical.not_not.mp fun h => c_3 ((cv_g_ge _).mpr h) : FP.dcmp sh 4607182418800017408 = some .lt)
      refine lv_iconst (v := 1) hx hb dM_take_12 (by decide) ?_
      refine lv_goto (tgt := 17) hx hb dM_take_13 (by decide) ?_
      refine lv_istore_n (lv' := [(3, .int 1), (0, .ref (ad 0)), (1, .double sh)]) hx hb dM_take_17 rfl hl (by decide) rfl (fun ls hl => ?_)
      refine lv_iload_n hx hb dM_take_18 rfl (lv_at hl 0 rfl) ?_
      refine lv_if_eq (tgt := 29) hx hb dM_take_19 (by decide) (fun c_5 => ?_) (fun c_5 => ?_)
      · exact (absurd c_5 (by decide))
      · refine lv_aload_n hx hb dM_take_22 rfl (lv_at hl 1 rfl) ?_
        refine ct_cvc (As := []) (rest := []) (wr := []) (w1 := (wM ad cA a dv ib ac hs ht hc hn rv ra (nI k) nw Tm Ac ts gt lt)) (w0 := (wM ad cA a dv ib ac hs ht hc hn rv ra (nI k) nw Tm Ac ts gt lt)) ⟨hx, hb, hml, hown, hts⟩ (cM_isEmpty l dC dI tt _ ad cA a dv ib ac hs ht hc hn rv ra (nI k) nw Tm Ac ts gt lt) (gT_V tw_m_M_90 tw_i_yM_isEmpty tw_s_yM_isEmpty tw_I_M tw_c_yM_isEmpty) ⟨rfl, by decide +kernel, by decide +kernel, (by decide +kernel : (parseMethodDescriptor yM_isEmpty.desc).map (fun d => d.parameters.length) = some 0)⟩ ⟨by decide, by decide⟩ (ci := 0) rfl rfl rfl hP hD hK hS hA hT [0, 1, 2, 3, 4, 5, 6, 7, 8, 9, 10, 11, 12, 13, 14, 15, 16, 17] [] [0, 1, 2, 3, 4, 5, 6, 7] (by decide) rfl rfl (by decide) (by decide) rfl hl.1 rfl (Nat.le_of_ble_eq_true rfl) dM_take_23 ⟨by decide, by decide⟩ (fun c_6 H locs hP hD hS => ?_) (fun c_6 H locs hP hD hS => ?_)
        · have hP : va_P (dC, dI) cls (wM ad cA a dv ib ac hs ht hc hn rv ra (nI k) nw Tm Ac ts gt lt) H := hP
          have hD : va_D A (wM ad cA a dv ib ac hs ht hc hn rv ra (nI k) nw Tm Ac ts gt lt) := hD
          refine lv_if_eq (tgt := 31) hx hb dM_take_26 (by decide) (fun c_7 => ?_) (fun c_7 => ?_)
          · exact (absurd c_7 (by decide))
          · refine lv_iconst (v := (-1)) hx hb dM_take_29 (by decide) ?_
            exact ct_ret0 hx hb hr rfl hlocks hP hK hD hS (fun h => h.1.2.2 c_6) (tkR_0 (fun h => h.2.2 c_6)) dM_take_30
        · have hP : va_P (dC, dI) cls (wM ad cA a dv ib ac hs ht hc hn rv ra (nI k) nw Tm Ac ts gt lt) H := hP
          have hD : va_D A (wM ad cA a dv ib ac hs ht hc hn rv ra (nI k) nw Tm Ac ts gt lt) := hD
          refine lv_if_eq (tgt := 31) hx hb dM_take_26 (by decide) (fun c_8 => ?_) (fun c_8 => ?_)
          · have hts9 : tkS sh gt lt := ⟨h_sh0, h_sh1, c_6⟩
            refine lv_aload_n hx hb dM_take_31 rfl (lv_at hl 1 rfl) ?_
            refine va_get (D := (dC, dI)) (ci := 0) (v := .int (nI k)) (C := "MashEnzymes") (T := F_M) (N := 13) hx hb hts in_M hown hK hP 0 rfl rfl 6 (by decide) (hts _ tw_f_M_100) (fun _ h9 => h9) rfl dM_take_32 ?_
            refine lv_bipush (v := 8) hx hb dM_take_35 (by decide) ?_
            refine lv_icmp_lt (tgt := 43) hx hb dM_take_37 (by decide) (fun c_9 => ?_) (fun c_9 => ?_)
            · have hk8 : k < 8 := (nI_ltI (a := k) (b := 8) (by omega) (by decide)).mp c_9
              refine lv_aload_n hx hb dM_take_43 rfl (lv_at hl 1 rfl) ?_
              refine va_get (D := (dC, dI)) (ci := 0) (v := .ref (ad 2)) (C := "MashEnzymes") (T := F_M) (N := 13) hx hb hts in_M hown hK hP 0 rfl rfl 1 (by decide) (hts _ tw_f_M_15) (fun _ h9 => h9) rfl dM_take_44 ?_
              refine lv_aload_n hx hb dM_take_47 rfl (lv_at hl 1 rfl) ?_
              refine va_get (D := (dC, dI)) (ci := 0) (v := .int (nI k)) (C := "MashEnzymes") (T := F_M) (N := 13) hx hb hts in_M hown hK hP 0 rfl rfl 6 (by decide) (hts _ tw_f_M_100) (fun _ h9 => h9) rfl dM_take_48 ?_
              refine mg_ald hx hb hK hP 2 1 rfl rfl (vp_in_nI hk8 (by decide)) dM_take_51 ?_
              refine ct_topv (y := .ref (ad (k + 10))) (by rw [nI_clamp (by omega)]; exact congrArg va_rf (if_pos hk8)) ?_
              refine lv_astore (lv' := [(4, .ref (ad (k + 10))), (3, .int 1), (0, .ref (ad 0)), (1, .double sh)]) hx hb dM_take_52 hl (by decide) rfl (fun ls hl => ?_)
              refine lv_iconst (v := 0) hx hb dM_take_54 (by decide) ?_
              refine ct_topi (y := nI 0) (rfl) ?_
              refine lv_istore (lv' := [(5, .int (nI 0)), (4, .ref (ad (k + 10))), (3, .int 1), (0, .ref (ad 0)), (1, .double sh)]) hx hb dM_take_55 hl (by decide) rfl (fun ls hl => ?_)
              have key : ∀ (n i : Nat) (ls : Array Slot) (H : Heap) (locs : List Loc), n + i = 13 → va_P (dC, dI) cls (wM ad cA (tkA a sh i) (va_up dv k (tkD a sh i (dv k))) ib ac hs ht hc hn rv ra (nI k) nw Tm Ac ts gt lt) H → va_D A (wM ad cA (tkA a sh i) (va_up dv k (tkD a sh i (dv k))) ib ac hs ht hc hn rv ra (nI k) nw Tm Ac ts gt lt) → va_S A s.heap H locs → lv_has ls 6 [(5, .int (nI i)), (4, .ref (ad (k + 10))), (1, .double sh), (0, .ref (ad 0))] → W p l e ({ frames := 1, cells := 0, slots := 0, locals := 20 } : Room) s m ([.ref (ad 0), .double sh] : List Value).toArray below meth c H locs 0 0 (MQ below (ctQc dC dI (tM cA) (tkS sh gt lt ∧ k < 8) (nI k) (wM ad cA (tkA a sh 13) (va_up dv k (tkD a sh 13 (dv k))) ib ac hs ht hc hn rv ra (nI (k + 1)) nw Tm Ac ts gt lt) (tkR sh gt lt) (wM ad cA a dv ib ac hs ht hc hn rv ra (nI k) nw Tm Ac ts gt lt) A) ([.ref (ad 0), .double sh] : List Value).toArray s 0 0 A) (F0 m 57 ls []) := by
                intro n
                induction n with
                | zero =>
                  intro i ls H locs hni hP hD hS hl
                  refine lv_iload hx hb dM_take_57 (lv_at hl 0 rfl) ?_
                  refine lv_bipush (v := 13) hx hb dM_take_59 (by decide) ?_
                  refine lv_icmp_ge (tgt := 104) hx hb dM_take_61 (by decide) (fun c_10 => ?_) (fun c_10 => ?_)
                  · have hi : i = 13 := by omega
                    subst hi
                    refine lv_aload_n hx hb dM_take_104 rfl (lv_at hl 3 rfl) ?_
                    refine lv_aload_n hx hb dM_take_105 rfl (lv_at hl 3 rfl) ?_
                    refine va_get (D := (dC, dI)) (ci := 0) (v := .int (nI k)) (C := "MashEnzymes") (T := F_M) (N := 13) hx hb hts in_M hown hK hP 0 rfl rfl 6 (by decide) (hts _ tw_f_M_100) (fun _ h9 => h9) rfl dM_take_106 ?_
                    refine lv_iconst (v := 1) hx hb dM_take_109 (by decide) ?_
                    refine lv_iadd hx hb dM_take_110 ?_
                    refine ct_topi (y := nI (k + 1)) (nI_1 k) ?_
                    refine va_put (D := (dC, dI)) (ci := 0) (v := .int (nI (k + 1))) (ty := .int) (C := "MashEnzymes") (T := F_M) (N := 13) hx hb hts in_M t_M t_M_ok n_M hown hK hP hD hS 0 rfl rfl 6 (by decide) (hts _ tw_f_M_100) (fun _ h9 => h9) rfl (by decide +kernel) rfl rfl (Nat.le_of_ble_eq_true rfl) dM_take_111 (fun H locs hP hD hS => ?_)
                    have hP : va_P (dC, dI) cls (wM ad cA (tkA a sh 13) (va_up dv k (tkD a sh 13 (dv k))) ib ac hs ht hc hn rv ra (nI (k + 1)) nw Tm Ac ts gt lt) H := hP
                    have hD : va_D A (wM ad cA (tkA a sh 13) (va_up dv k (tkD a sh 13 (dv k))) ib ac hs ht hc hn rv ra (nI (k + 1)) nw Tm Ac ts gt lt) := hD
                    refine lv_aload_n hx hb dM_take_114 rfl (lv_at hl 3 rfl) ?_
                    refine va_get (D := (dC, dI)) (ci := 0) (v := .int (nI (k + 1))) (C := "MashEnzymes") (T := F_M) (N := 13) hx hb hts in_M hown hK hP 0 rfl rfl 6 (by decide) (hts _ tw_f_M_100) (fun _ h9 => h9) rfl dM_take_115 ?_
                    refine lv_iconst (v := 1) hx hb dM_take_118 (by decide) ?_
                    refine lv_isub hx hb dM_take_119 ?_
                    refine ct_topi (y := nI k) (nI_pred k) ?_
                    exact ct_ret1 hx hb hr rfl hlocks hP hK hD hS ⟨hts9, hk8⟩ rfl dM_take_120
                  · exact absurd (nI_le (a := 13) (b := i) (by omega) (by omega)) c_10
                | succ n ih =>
                  intro i ls H locs hni hP hD hS hl
                  refine lv_iload hx hb dM_take_57 (lv_at hl 0 rfl) ?_
                  refine lv_bipush (v := 13) hx hb dM_take_59 (by decide) ?_
                  refine lv_icmp_ge (tgt := 104) hx hb dM_take_61 (by decide) (fun c_11 => ?_) (fun c_11 => ?_)
                  · exact absurd ((nI_leI (a := 13) (b := i) (by decide) (by omega)).mp c_11) (by omega)
                  · have hi : i < 13 := by omega
                    refine lv_aload hx hb dM_take_64 (lv_at hl 1 rfl) ?_
                    refine lv_iload hx hb dM_take_66 (lv_at hl 0 rfl) ?_
                    refine lv_aload_n hx hb dM_take_68 rfl (lv_at hl 3 rfl) ?_
                    refine va_get (D := (dC, dI)) (ci := 0) (v := .ref (ad 1)) (C := "MashEnzymes") (T := F_M) (N := 13) hx hb hts in_M hown hK hP 0 rfl rfl 0 (by decide) (hts _ tw_f_M_9) (fun _ h9 => h9) rfl dM_take_69 ?_
                    refine lv_iload hx hb dM_take_72 (lv_at hl 0 rfl) ?_
                    refine ct_dald (k := i) (v := a i) hx hb hK hP 1 0 rfl rfl (vp_in_nI (by omega) (by decide)) (nI_clamp (by omega)) (tkA_at a sh i) dM_take_74 ?_
                    refine lv_dload_n hx hb dM_take_75 rfl (lv_at hl 2 rfl) ?_
                    refine lv_dmul hx hb dM_take_76 ((hok hts9 i hi).1) ?_
                    refine ct_dast (k := i) (w1 := (wM ad cA (tkA a sh i) (va_up dv k (tkD a sh (i + 1) (dv k))) ib ac hs ht hc hn rv ra (nI k) nw Tm Ac ts gt lt)) hx hb hK hP hD hS (10 + k) 7 (wM_dec hk8) rfl (vp_in_nI (by omega) (by decide)) (nI_clamp (by omega)) (by rw [wM_set hk8, bx_uu, show va_up dv k (tkD a sh i (dv k)) k = tkD a sh i (dv k) from if_pos rfl, tkD_s]) dM_take_77 (fun H locs hP hD hS => ?_)
                    refine lv_aload_n hx hb dM_take_78 rfl (lv_at hl 3 rfl) ?_
                    refine va_get (D := (dC, dI)) (ci := 0) (v := .ref (ad 1)) (C := "MashEnzymes") (T := F_M) (N := 13) hx hb hts in_M hown hK hP 0 rfl rfl 0 (by decide) (hts _ tw_f_M_9) (fun _ h9 => h9) rfl dM_take_79 ?_
                    refine lv_iload hx hb dM_take_82 (lv_at hl 0 rfl) ?_
                    refine lv_aload_n hx hb dM_take_84 rfl (lv_at hl 3 rfl) ?_
                    refine va_get (D := (dC, dI)) (ci := 0) (v := .ref (ad 1)) (C := "MashEnzymes") (T := F_M) (N := 13) hx hb hts in_M hown hK hP 0 rfl rfl 0 (by decide) (hts _ tw_f_M_9) (fun _ h9 => h9) rfl dM_take_85 ?_
                    refine lv_iload hx hb dM_take_88 (lv_at hl 0 rfl) ?_
                    refine ct_dald (k := i) (v := a i) hx hb hK hP 1 0 rfl rfl (vp_in_nI (by omega) (by decide)) (nI_clamp (by omega)) (tkA_at a sh i) dM_take_90 ?_
                    refine lv_aload hx hb dM_take_91 (lv_at hl 1 rfl) ?_
                    refine lv_iload hx hb dM_take_93 (lv_at hl 0 rfl) ?_
                    refine ct_dald (k := i) (v := FP.dmul (a i) sh) hx hb hK hP (10 + k) 7 (wM_dec hk8) rfl (vp_in_nI (by omega) (by decide)) (nI_clamp (by omega)) (by rw [show va_up dv k (tkD a sh (i + 1) (dv k)) k = tkD a sh (i + 1) (dv k) from if_pos rfl, tkD_at]) dM_take_95 ?_
                    refine lv_dsub hx hb dM_take_96 ((hok hts9 i hi).2) ?_
                    refine ct_dast (k := i) (w1 := (wM ad cA (tkA a sh (i + 1)) (va_up dv k (tkD a sh (i + 1) (dv k))) ib ac hs ht hc hn rv ra (nI k) nw Tm Ac ts gt lt)) hx hb hK hP hD hS 1 0 rfl rfl (vp_in_nI (by omega) (by decide)) (nI_clamp (by omega)) (by rw [← tkA_s]; rfl) dM_take_97 (fun H locs hP hD hS => ?_)
                    refine lv_iinc (v := (nI (i + 1))) (lv' := [(5, .int (nI (i + 1))), (4, .ref (ad (k + 10))), (1, .double sh), (0, .ref (ad 0))]) hx hb dM_take_98 hl (k := 0) rfl (nI_1 i) (by decide) rfl (fun ls hl => ?_)
                    refine lv_goto (tgt := 57) hx hb dM_take_101 (by decide) ?_
                    exact ih (i + 1) ls H locs (by omega) hP hD hS (lv_sub hl [0, 1, 2, 3] rfl)
              have hP : va_P (dC, dI) cls (wM ad cA (tkA a sh 0) (va_up dv k (tkD a sh 0 (dv k))) ib ac hs ht hc hn rv ra (nI k) nw Tm Ac ts gt lt) _ := (by rw [tkA_0, tkD_0, va_up_id]; exact hP)
              have hD : va_D A (wM ad cA (tkA a sh 0) (va_up dv k (tkD a sh 0 (dv k))) ib ac hs ht hc hn rv ra (nI k) nw Tm Ac ts gt lt) := (by rw [tkA_0, tkD_0, va_up_id]; exact hD)
              exact key 13 0 ls _ _ rfl hP hD hS (lv_sub hl [0, 1, 4, 3] rfl)
            · refine lv_bipush (v := (-2)) hx hb dM_take_40 (by decide) ?_
              exact ct_ret0 hx hb hr rfl hlocks hP hK hD hS (fun h => c_9 (nI_lt (a := k) (b := 8) h.2 (by decide))) (tkR_1 hts9) dM_take_42
          · exact absurd rfl c_8

set_option maxHeartbeats 4000000 in
set_option maxRecDepth 100000 in
/-- back -/
theorem cM_back (l : Launch) (dC : Nat → ClassId) (dI : Nat → Nat → Nat) (tt : Nat → Nat) (sz : Nat) (ad : Nat → Nat) (cA : Nat → ClassId) (a : Nat → UInt64) (dv : Nat → Nat → UInt64) (ib : Nat → Int32) (ac : Nat → UInt64) (hs : Nat → Int32) (ht : Nat → UInt64) (hc hn : Int32) (rv : Nat → UInt64) (ra : UInt64) (kd : Nat) (nw : Int32) (Tm Ac ts : UInt64) (gt lt : Int32) (dec : Int32) (d : UInt64) (hk9 : kd ≤ 8) (hok : bkOK ib (nI kd) dec d → okM Tm (a 0) d (dv dec.toNatClampNeg 0) ∧ ∀ i, i < 13 → vf_n64 (FP.dadd (a i) (dv dec.toNatClampNeg i))) : Ct l dC dI tt yM_back bM_back 6 (some .boolean) ({ frames := 1, cells := 0, slots := 0, locals := 29 }) (tM cA) [.ref (ad 0), .int dec, .double d] (wM ad cA a dv ib ac hs ht hc hn rv ra (nI kd) nw Tm Ac ts gt lt) sz (fun A => ctQc dC dI (tM cA) (bkOK ib (nI kd) dec d) 1 (wM ad cA (bkA a (dv dec.toNatClampNeg) 13) dv (upd ib dec.toNatClampNeg 1) ac hs ht hc hn rv ra (nI kd) nw (mixD Tm (a 0) d (dv dec.toNatClampNeg 0)) Ac ts gt lt) 0 (wM ad cA a dv ib ac hs ht hc hn rv ra (nI kd) nw Tm Ac ts gt lt) A) := by
  refine ct_of (by decide) (Nat.le_of_ble_eq_true rfl) ?_
  intro p e s m below meth c A ls hx hb hr hts hown hml hlocks hnm hA hS hP hK hD hT hl
  have hl : lv_has ls 6 [(0, .ref (ad 0)), (1, .int dec), (2, .double d)] := hl
  refine lv_iload_n hx hb dM_back_0 rfl (lv_at hl 1 rfl) ?_
  refine lv_if_lt (tgt := 28) hx hb dM_back_1 (by decide) (fun c_1 => ?_) (fun c_1 => ?_)
  · refine lv_iconst (v := 0) hx hb dM_back_28 (by decide) ?_
    exact ct_ret0 hx hb hr rfl hlocks hP hK hD hS (fun h => Int32.not_lt.mpr h.1 c_1) rfl dM_back_29
  · have h_0 := (c_1 : ¬ dec < 0)
    refine lv_iload_n hx hb dM_back_4 rfl (lv_at hl 1 rfl) ?_
    refine lv_aload_n hx hb dM_back_5 rfl (lv_at hl 0 rfl) ?_
    refine va_get (D := (dC, dI)) (ci := 0) (v := .int (nI kd)) (C := "MashEnzymes") (T := F_M) (N := 13) hx hb hts in_M hown hK hP 0 rfl rfl 6 (by decide) (hts _ tw_f_M_100) (fun _ h9 => h9) rfl dM_back_6 ?_
    refine lv_icmp_ge (tgt := 28) hx hb dM_back_9 (by decide) (fun c_2 => ?_) (fun c_2 => ?_)
    · refine lv_iconst (v := 0) hx hb dM_back_28 (by decide) ?_
      exact ct_ret0 hx hb hr rfl hlocks hP hK hD hS (fun h => Int32.not_lt.mpr c_2 h.2.1) rfl dM_back_29
    · have h_1 := (Int32.not_le.mp c_2 : dec < nI kd)
      obtain ⟨k, hk, rfl⟩ := nI_of (x := dec) h_0
      have hkd : k < kd := (nI_ltI hk (by omega)).mp h_1
      have hk8 : k < 8 := by omega
      have hkc : (nI k).toNatClampNeg = k := nI_clamp hk
      refine lv_aload_n hx hb dM_back_12 rfl (lv_at hl 0 rfl) ?_
      refine va_get (D := (dC, dI)) (ci := 0) (v := .ref (ad 3)) (C := "MashEnzymes") (T := F_M) (N := 13) hx hb hts in_M hown hK hP 0 rfl rfl 2 (by decide) (hts _ tw_f_M_18) (fun _ h9 => h9) rfl dM_back_13 ?_
      refine lv_iload_n hx hb dM_back_16 rfl (lv_at hl 1 rfl) ?_
      refine va_zald hx hb hK hP 3 2 rfl rfl (vp_in_nI hk8 (by decide)) dM_back_17 ?_
      rw [hkc]
      refine lv_if_ne (tgt := 28) hx hb dM_back_18 (by decide) (fun c_3 => ?_) (fun c_3 => ?_)
      · refine lv_iconst (v := 0) hx hb dM_back_28 (by decide) ?_
        exact ct_ret0 hx hb hr rfl hlocks hP hK hD hS (fun h => c_3 (by have := h.2.2.1; rwa [hkc] at this)) rfl dM_back_29
      · have h_2 : ib k = 0 := c_3
        refine lv_dload_n hx hb dM_back_21 rfl (lv_at hl 2 rfl) ?_
        refine ct_csc (As := [.double d]) (rest := []) (wr := (wM ad cA a dv ib ac hs ht hc hn rv ra (nI kd) nw Tm Ac ts gt lt)) ⟨hx, hb, hml, hown, hts⟩ (cM_isTemperature l dC dI tt _ d) (gT_S tw_m_M_62 tw_st_yM_isTemperature tw_I_M tw_c_yM_isTemperature) ⟨by decide +kernel, by decide +kernel, (by decide +kernel : (parseMethodDescriptor yM_isTemperature.desc).map (fun d => d.parameters.length) = some 1)⟩ ⟨by decide, by decide⟩ hP hD hK hS hA hT [0, 1, 2, 3, 4, 5, 6, 7, 8, 9, 10, 11, 12, 13, 14, 15, 16, 17] rfl (by decide) hl.1 rfl (Nat.le_of_ble_eq_true rfl) dM_back_22 ⟨by decide, by decide⟩ (fun c_4 H locs hP hD hS => ?_) (fun c_4 H locs hP hD hS => ?_)
        · have hP : va_P (dC, dI) cls (wM ad cA a dv ib ac hs ht hc hn rv ra (nI kd) nw Tm Ac ts gt lt) H := hP
          have hD : va_D A (wM ad cA a dv ib ac hs ht hc hn rv ra (nI kd) nw Tm Ac ts gt lt) := hD
          refine lv_if_ne (tgt := 30) hx hb dM_back_25 (by decide) (fun c_5 => ?_) (fun c_5 => ?_)
          · have hbk : bkOK ib (nI kd) (nI k) d := ⟨Int32.not_lt.mp h_0, h_1, by rw [hkc]; exact h_2, c_4⟩
            have hok9 := hok hbk
            rw [hkc] at hok9
            refine lv_aload_n hx hb dM_back_30 rfl (lv_at hl 0 rfl) ?_
            refine va_get (D := (dC, dI)) (ci := 0) (v := .ref (ad 2)) (C := "MashEnzymes") (T := F_M) (N := 13) hx hb hts in_M hown hK hP 0 rfl rfl 1 (by decide) (hts _ tw_f_M_15) (fun _ h9 => h9) rfl dM_back_31 ?_
            refine lv_iload_n hx hb dM_back_34 rfl (lv_at hl 1 rfl) ?_
            refine mg_ald hx hb hK hP 2 1 rfl rfl (vp_in_nI hk8 (by decide)) dM_back_35 ?_
            refine ct_topv (y := .ref (ad (k + 10))) (by rw [hkc]; exact congrArg va_rf (if_pos hk8)) ?_
            refine lv_astore (lv' := [(4, .ref (ad (k + 10))), (0, .ref (ad 0)), (1, .int (nI k)), (2, .double d)]) hx hb dM_back_36 hl (by decide) rfl (fun ls hl => ?_)
            refine lv_aload_n hx hb dM_back_38 rfl (lv_at hl 1 rfl) ?_
            refine lv_aload_n hx hb dM_back_39 rfl (lv_at hl 1 rfl) ?_
            refine va_get (D := (dC, dI)) (ci := 0) (v := .double Tm) (C := "MashEnzymes") (T := F_M) (N := 13) hx hb hts in_M hown hK hP 0 rfl rfl 8 (by decide) (hts _ tw_f_M_68) (fun _ h9 => h9) rfl dM_back_40 ?_
            refine lv_aload_n hx hb dM_back_43 rfl (lv_at hl 1 rfl) ?_
            refine va_get (D := (dC, dI)) (ci := 0) (v := .ref (ad 1)) (C := "MashEnzymes") (T := F_M) (N := 13) hx hb hts in_M hown hK hP 0 rfl rfl 0 (by decide) (hts _ tw_f_M_9) (fun _ h9 => h9) rfl dM_back_44 ?_
            refine lv_iconst (v := 0) hx hb dM_back_47 (by decide) ?_
            refine ct_dald (k := 0) (v := a 0) hx hb hK hP 1 0 rfl rfl (by unfold vp_in; decide) (rfl) (rfl) dM_back_48 ?_
            refine lv_dload_n hx hb dM_back_49 rfl (lv_at hl 3 rfl) ?_
            refine lv_aload hx hb dM_back_50 (lv_at hl 0 rfl) ?_
            refine lv_iconst (v := 0) hx hb dM_back_52 (by decide) ?_
            refine ct_dald (k := 0) (v := dv k 0) hx hb hK hP (10 + k) 7 (wM_dec hk8) rfl (by unfold vp_in; decide) (rfl) (rfl) dM_back_53 ?_
            refine ct_csd (As := [.double Tm, .double (a 0), .double d, .double (dv k 0)]) (rest := [.ref (ad 0)]) (wr := (wM ad cA a dv ib ac hs ht hc hn rv ra (nI kd) nw Tm Ac ts gt lt)) ⟨hx, hb, hml, hown, hts⟩ (cM_mixed l dC dI tt _ Tm (a 0) d (dv k 0) hok9.1) (gT_S tw_m_M_71 tw_st_yM_mixed tw_I_M tw_c_yM_mixed) ⟨by decide +kernel, by decide +kernel, (by decide +kernel : (parseMethodDescriptor yM_mixed.desc).map (fun d => d.parameters.length) = some 4)⟩ ⟨by decide, by decide⟩ hP hD hK hS hA hT [0, 1, 2, 3, 4, 5, 6, 7, 8, 9, 10, 11, 12, 13, 14, 15, 16, 17] rfl (by decide) hl.1 rfl (Nat.le_of_ble_eq_true rfl) dM_back_54 ⟨by decide, by decide⟩ (fun H locs hP hD hS => ?_)
            refine va_put (D := (dC, dI)) (ci := 0) (v := .double (mixD Tm (a 0) d (dv k 0))) (ty := .double) (C := "MashEnzymes") (T := F_M) (N := 13) hx hb hts in_M t_M t_M_ok n_M hown hK hP hD hS 0 rfl rfl 8 (by decide) (hts _ tw_f_M_68) (fun _ h9 => h9) rfl (by decide +kernel) rfl rfl (Nat.le_of_ble_eq_true rfl) dM_back_57 (fun H locs hP hD hS => ?_)
            have hP : va_P (dC, dI) cls (wM ad cA a dv ib ac hs ht hc hn rv ra (nI kd) nw (mixD Tm (a 0) d (dv k 0)) Ac ts gt lt) H := hP
            have hD : va_D A (wM ad cA a dv ib ac hs ht hc hn rv ra (nI kd) nw (mixD Tm (a 0) d (dv k 0)) Ac ts gt lt) := hD
            refine lv_iconst (v := 0) hx hb dM_back_60 (by decide) ?_
            refine ct_topi (y := nI 0) (rfl) ?_
            refine lv_istore (lv' := [(5, .int (nI 0)), (4, .ref (ad (k + 10))), (0, .ref (ad 0)), (1, .int (nI k)), (2, .double d)]) hx hb dM_back_61 hl (by decide) rfl (fun ls hl => ?_)
            have key : ∀ (n i : Nat) (ls : Array Slot) (H : Heap) (locs : List Loc), n + i = 13 → va_P (dC, dI) cls (wM ad cA (bkA a (dv k) i) dv ib ac hs ht hc hn rv ra (nI kd) nw (mixD Tm (a 0) d (dv k 0)) Ac ts gt lt) H → va_D A (wM ad cA (bkA a (dv k) i) dv ib ac hs ht hc hn rv ra (nI kd) nw (mixD Tm (a 0) d (dv k 0)) Ac ts gt lt) → va_S A s.heap H locs → lv_has ls 6 [(5, .int (nI i)), (4, .ref (ad (k + 10))), (1, .int (nI k)), (0, .ref (ad 0))] → W p l e ({ frames := 1, cells := 0, slots := 0, locals := 29 } : Room) s m ([.ref (ad 0), .int (nI k), .double d] : List Value).toArray below meth c H locs 0 0 (MQ below (ctQc dC dI (tM cA) (bkOK ib (nI kd) (nI k) d) 1 (wM ad cA (bkA a (dv k) 13) dv (upd ib k 1) ac hs ht hc hn rv ra (nI kd) nw (mixD Tm (a 0) d (dv k 0)) Ac ts gt lt) 0 (wM ad cA a dv ib ac hs ht hc hn rv ra (nI kd) nw Tm Ac ts gt lt) A) ([.ref (ad 0), .int (nI k), .double d] : List Value).toArray s 0 0 A) (F0 m 63 ls []) := by
              intro n
              induction n with
              | zero =>
                intro i ls H locs hni hP hD hS hl
                refine lv_iload hx hb dM_back_63 (lv_at hl 0 rfl) ?_
                refine lv_bipush (v := 13) hx hb dM_back_65 (by decide) ?_
                refine lv_icmp_ge (tgt := 96) hx hb dM_back_67 (by decide) (fun c_6 => ?_) (fun c_6 => ?_)
                · have hi : i = 13 := by omega
                  subst hi
                  refine lv_aload_n hx hb dM_back_96 rfl (lv_at hl 3 rfl) ?_
                  refine va_get (D := (dC, dI)) (ci := 0) (v := .ref (ad 3)) (C := "MashEnzymes") (T := F_M) (N := 13) hx hb hts in_M hown hK hP 0 rfl rfl 2 (by decide) (hts _ tw_f_M_18) (fun _ h9 => h9) rfl dM_back_97 ?_
                  refine lv_iload_n hx hb dM_back_100 rfl (lv_at hl 2 rfl) ?_
                  refine lv_iconst (v := 1) hx hb dM_back_101 (by decide) ?_
                  refine va_zast hx hb hK hP hD hS 3 2 rfl rfl (vp_in_nI hk8 (by decide)) dM_back_102 (fun H locs hP hD hS => ?_)
                  rw [hkc] at hP hD
                  have hP : va_P (dC, dI) cls (wM ad cA (bkA a (dv k) 13) dv (upd ib k 1) ac hs ht hc hn rv ra (nI kd) nw (mixD Tm (a 0) d (dv k 0)) Ac ts gt lt) H := hP
                  have hD : va_D A (wM ad cA (bkA a (dv k) 13) dv (upd ib k 1) ac hs ht hc hn rv ra (nI kd) nw (mixD Tm (a 0) d (dv k 0)) Ac ts gt lt) := hD
                  refine lv_iconst (v := 1) hx hb dM_back_103 (by decide) ?_
                  exact ct_ret1 hx hb hr rfl hlocks hP hK hD hS hbk rfl dM_back_104
                · exact absurd (nI_le (a := 13) (b := i) (by omega) (by omega)) c_6
              | succ n ih =>
                intro i ls H locs hni hP hD hS hl
                refine lv_iload hx hb dM_back_63 (lv_at hl 0 rfl) ?_
                refine lv_bipush (v := 13) hx hb dM_back_65 (by decide) ?_
                refine lv_icmp_ge (tgt := 96) hx hb dM_back_67 (by decide) (fun c_7 => ?_) (fun c_7 => ?_)
                · exact absurd ((nI_leI (a := 13) (b := i) (by decide) (by omega)).mp c_7) (by omega)
                · have hi : i < 13 := by omega
                  refine lv_aload_n hx hb dM_back_70 rfl (lv_at hl 3 rfl) ?_
                  refine va_get (D := (dC, dI)) (ci := 0) (v := .ref (ad 1)) (C := "MashEnzymes") (T := F_M) (N := 13) hx hb hts in_M hown hK hP 0 rfl rfl 0 (by decide) (hts _ tw_f_M_9) (fun _ h9 => h9) rfl dM_back_71 ?_
                  refine lv_iload hx hb dM_back_74 (lv_at hl 0 rfl) ?_
                  refine lv_aload_n hx hb dM_back_76 rfl (lv_at hl 3 rfl) ?_
                  refine va_get (D := (dC, dI)) (ci := 0) (v := .ref (ad 1)) (C := "MashEnzymes") (T := F_M) (N := 13) hx hb hts in_M hown hK hP 0 rfl rfl 0 (by decide) (hts _ tw_f_M_9) (fun _ h9 => h9) rfl dM_back_77 ?_
                  refine lv_iload hx hb dM_back_80 (lv_at hl 0 rfl) ?_
                  refine ct_dald (k := i) (v := a i) hx hb hK hP 1 0 rfl rfl (vp_in_nI (by omega) (by decide)) (nI_clamp (by omega)) (bkA_at a (dv k) i) dM_back_82 ?_
                  refine lv_aload hx hb dM_back_83 (lv_at hl 1 rfl) ?_
                  refine lv_iload hx hb dM_back_85 (lv_at hl 0 rfl) ?_
                  refine ct_dald (k := i) (v := dv k i) hx hb hK hP (10 + k) 7 (wM_dec hk8) rfl (vp_in_nI (by omega) (by decide)) (nI_clamp (by omega)) (rfl) dM_back_87 ?_
                  refine lv_dadd hx hb dM_back_88 (hok9.2 i hi) ?_
                  refine ct_dast (k := i) (w1 := (wM ad cA (bkA a (dv k) (i + 1)) dv ib ac hs ht hc hn rv ra (nI kd) nw (mixD Tm (a 0) d (dv k 0)) Ac ts gt lt)) hx hb hK hP hD hS 1 0 rfl rfl (vp_in_nI (by omega) (by decide)) (nI_clamp (by omega)) (by rw [← bkA_s]; rfl) dM_back_89 (fun H locs hP hD hS => ?_)
                  refine lv_iinc (v := (nI (i + 1))) (lv' := [(5, .int (nI (i + 1))), (4, .ref (ad (k + 10))), (1, .int (nI k)), (0, .ref (ad 0))]) hx hb dM_back_90 hl (k := 0) rfl (nI_1 i) (by decide) rfl (fun ls hl => ?_)
                  refine lv_goto (tgt := 63) hx hb dM_back_93 (by decide) ?_
                  exact ih (i + 1) ls H locs (by omega) hP hD hS (lv_sub hl [0, 1, 2, 3] rfl)
            have hP : va_P (dC, dI) cls (wM ad cA (bkA a (dv k) 0) dv ib ac hs ht hc hn rv ra (nI kd) nw (mixD Tm (a 0) d (dv k 0)) Ac ts gt lt) _ := (by rw [bkA_0]; exact hP)
            have hD : va_D A (wM ad cA (bkA a (dv k) 0) dv ib ac hs ht hc hn rv ra (nI kd) nw (mixD Tm (a 0) d (dv k 0)) Ac ts gt lt) := (by rw [bkA_0]; exact hD)
            exact key 13 0 ls _ _ rfl hP hD hS (lv_sub hl [0, 1, 3, 2] rfl)
          · exact (absurd c_5 (by decide))
        · have hP : va_P (dC, dI) cls (wM ad cA a dv ib ac hs ht hc hn rv ra (nI kd) nw Tm Ac ts gt lt) H := hP
          have hD : va_D A (wM ad cA a dv ib ac hs ht hc hn rv ra (nI kd) nw Tm Ac ts gt lt) := hD
          refine lv_if_ne (tgt := 30) hx hb dM_back_25 (by decide) (fun c_8 => ?_) (fun c_8 => ?_)
          · exact absurd rfl c_8
          · refine lv_iconst (v := 0) hx hb dM_back_28 (by decide) ?_
            exact ct_ret0 hx hb hr rfl hlocks hP hK hD hS (fun h => c_4 h.2.2.2) rfl dM_back_29

